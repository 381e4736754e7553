
def sp_by (w k : Int32) : Nat := if (w >>> (k &&& 31)) &&& 255 = 0 then 0 else 1
def sp_cnt (w : Int32) : Nat := sp_by w 24 + sp_by w 16 + sp_by w 8 + sp_by w 0
theorem sp_by_le (w k : Int32) : sp_by w k ≤ 1 := by
  unfold sp_by
  split <;> omega
theorem sp_cnt_le (w : Int32) : sp_cnt w ≤ 4 := by
  have a := sp_by_le w 24
  have b := sp_by_le w 16
  have c := sp_by_le w 8
  have d := sp_by_le w 0
  unfold sp_cnt
  omega
