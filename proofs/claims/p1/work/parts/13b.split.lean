
theorem nk_split4 (p : Int32) (h : 0 ≤ p.toInt ∧ p.toInt < 4) : p = 0 ∨ p = 1 ∨ p = 2 ∨ p = 3 := by
  have k : p.toInt = 0 ∨ p.toInt = 1 ∨ p.toInt = 2 ∨ p.toInt = 3 := by omega
  rcases k with k | k | k | k
  · exact Or.inl ((nk_eq p 0).mpr (k.trans (by decide)))
  · exact Or.inr (Or.inl ((nk_eq p 1).mpr (k.trans (by decide))))
  · exact Or.inr (Or.inr (Or.inl ((nk_eq p 2).mpr (k.trans (by decide)))))
  · exact Or.inr (Or.inr (Or.inr (((nk_eq p 3).mpr (k.trans (by decide))))))
theorem nk_split16 (p : Int32) (h : 0 ≤ p.toInt ∧ p.toInt < 16) : p = 0 ∨ p = 1 ∨ p = 2 ∨ p = 3 ∨ p = 4 ∨ p = 5 ∨ p = 6 ∨ p = 7 ∨ p = 8 ∨ p = 9 ∨ p = 10 ∨ p = 11 ∨ p = 12 ∨ p = 13 ∨ p = 14 ∨ p = 15 := by
  have k : p.toInt = 0 ∨ p.toInt = 1 ∨ p.toInt = 2 ∨ p.toInt = 3 ∨ p.toInt = 4 ∨ p.toInt = 5 ∨ p.toInt = 6 ∨ p.toInt = 7 ∨ p.toInt = 8 ∨ p.toInt = 9 ∨ p.toInt = 10 ∨ p.toInt = 11 ∨ p.toInt = 12 ∨ p.toInt = 13 ∨ p.toInt = 14 ∨ p.toInt = 15 := by omega
  rcases k with k | k | k | k | k | k | k | k | k | k | k | k | k | k | k | k
  · exact Or.inl ((nk_eq p 0).mpr (k.trans (by decide)))
  · exact Or.inr (Or.inl ((nk_eq p 1).mpr (k.trans (by decide))))
  · exact Or.inr (Or.inr (Or.inl ((nk_eq p 2).mpr (k.trans (by decide)))))
  · exact Or.inr (Or.inr (Or.inr (Or.inl ((nk_eq p 3).mpr (k.trans (by decide))))))
  · exact Or.inr (Or.inr (Or.inr (Or.inr (Or.inl ((nk_eq p 4).mpr (k.trans (by decide)))))))
  · exact Or.inr (Or.inr (Or.inr (Or.inr (Or.inr (Or.inl ((nk_eq p 5).mpr (k.trans (by decide))))))))
  · exact Or.inr (Or.inr (Or.inr (Or.inr (Or.inr (Or.inr (Or.inl ((nk_eq p 6).mpr (k.trans (by decide)))))))))
  · exact Or.inr (Or.inr (Or.inr (Or.inr (Or.inr (Or.inr (Or.inr (Or.inl ((nk_eq p 7).mpr (k.trans (by decide))))))))))
  · exact Or.inr (Or.inr (Or.inr (Or.inr (Or.inr (Or.inr (Or.inr (Or.inr (Or.inl ((nk_eq p 8).mpr (k.trans (by decide)))))))))))
  · exact Or.inr (Or.inr (Or.inr (Or.inr (Or.inr (Or.inr (Or.inr (Or.inr (Or.inr (Or.inl ((nk_eq p 9).mpr (k.trans (by decide))))))))))))
  · exact Or.inr (Or.inr (Or.inr (Or.inr (Or.inr (Or.inr (Or.inr (Or.inr (Or.inr (Or.inr (Or.inl ((nk_eq p 10).mpr (k.trans (by decide)))))))))))))
  · exact Or.inr (Or.inr (Or.inr (Or.inr (Or.inr (Or.inr (Or.inr (Or.inr (Or.inr (Or.inr (Or.inr (Or.inl ((nk_eq p 11).mpr (k.trans (by decide))))))))))))))
  · exact Or.inr (Or.inr (Or.inr (Or.inr (Or.inr (Or.inr (Or.inr (Or.inr (Or.inr (Or.inr (Or.inr (Or.inr (Or.inl ((nk_eq p 12).mpr (k.trans (by decide)))))))))))))))
  · exact Or.inr (Or.inr (Or.inr (Or.inr (Or.inr (Or.inr (Or.inr (Or.inr (Or.inr (Or.inr (Or.inr (Or.inr (Or.inr (Or.inl ((nk_eq p 13).mpr (k.trans (by decide))))))))))))))))
  · exact Or.inr (Or.inr (Or.inr (Or.inr (Or.inr (Or.inr (Or.inr (Or.inr (Or.inr (Or.inr (Or.inr (Or.inr (Or.inr (Or.inr (Or.inl ((nk_eq p 14).mpr (k.trans (by decide)))))))))))))))))
  · exact Or.inr (Or.inr (Or.inr (Or.inr (Or.inr (Or.inr (Or.inr (Or.inr (Or.inr (Or.inr (Or.inr (Or.inr (Or.inr (Or.inr (Or.inr (((nk_eq p 15).mpr (k.trans (by decide))))))))))))))))))
def sp_rank (p : Int32) : Int32 := if 0 ≤ p.toInt ∧ p.toInt < 16 then 0 else -1
def sp_rel (p q : Int32) : Int32 := if (0 ≤ p.toInt ∧ p.toInt < 16) ∧ (0 ≤ q.toInt ∧ q.toInt < 4) then (if p = 0 then -1000000 else if (p >>> (q &&& 31)) &&& 1 = 0 then 0 else if p &&& ((1 <<< (q &&& 31)) - 1) = 0 then 1 else 0) else -1000000
