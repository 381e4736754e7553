
/-! the arrays' classes are one of a kind -/
theorem nk_same {D : va_G} {cl : List vw_C} {tys : List (ClassId × FieldType)} {s : State} {c0 c1 : ClassId} {ty : FieldType} (hK : va_K D cl tys s) (hKn : va_K D cl (tys ++ [(c1, ty)]) s) (k : Nat) (hk : tys[k]? = some (c0, ty)) (h0 : va_RA s c0 ty → s.vm.findClass ("[" ++ ty.toString) = some c0) (h1 : va_RA s c1 ty → s.vm.findClass ("[" ++ ty.toString) = some c1) : c0 = c1 := by
  have a := h0 (hK.2 k _ hk).2
  have b := h1 (hKn.2 tys.length (c1, ty) (by simp)).2
  exact Option.some.inj (a.symm.trans b)
theorem nk_upd0 (k : Nat) : upd (fun _ => (0 : Int32)) k 0 = fun _ => 0 := by
  funext j
  unfold upd
  split <;> rfl
theorem nk_updL0 (k : Nat) : vp_updL (fun _ => (0 : Int64)) k 0 = fun _ => 0 := by
  funext j
  unfold vp_updL
  split <;> rfl
theorem nk_upds (g : Nat → Int32) (k : Nat) (v : Int32) (h : g k = v) : upd g k v = g := by
  funext j
  unfold upd
  split
  · next e => rw [e, h]
  · rfl
theorem nk_updLs (g : Nat → Int64) (k : Nat) (v : Int64) (h : g k = v) : vp_updL g k v = g := by
  funext j
  unfold vp_updL
  split
  · next e => rw [e, h]
  · rfl
theorem nk_lt (a b : Int32) : a < b ↔ a.toInt < b.toInt := Int32.lt_iff_toInt_lt
theorem nk_le (a b : Int32) : a ≤ b ↔ a.toInt ≤ b.toInt := Int32.le_iff_toInt_le
theorem nk_eq (a b : Int32) : a = b ↔ a.toInt = b.toInt := Int32.toInt_inj.symm
theorem nk_wd (a : Int32) : a.toInt64.toInt = a.toInt := Int32.toInt_toInt64 a
theorem nk_sw (x : Int32) (n : Nat) (hn : n < 2 ^ 31) (h : ∀ j, j < n → ¬ x = nI j) : x.toInt < 0 ∨ (n : Int) - 1 < x.toInt := by
  rcases Classical.em (x < 0) with h0 | h0
  · exact Or.inl (by have := (nk_lt x 0).mp h0; simpa using this)
  · obtain ⟨j, hj, e⟩ := nI_of h0
    right
    have h1 : ¬ j < n := fun q => h j q e
    rw [e, nI_toInt hj]
    omega
theorem nk_cl (a b : Int64) : lg_cmp a b < 0 ↔ a.toInt < b.toInt := by
  have hgt : (a > b) ↔ b.toInt < a.toInt := Int64.lt_iff_toInt_lt
  have heq : (a = b) ↔ a.toInt = b.toInt := Int64.toInt_inj.symm
  unfold lg_cmp
  by_cases h : a > b
  · rw [if_pos h]
    rw [hgt] at h
    exact ⟨fun q => absurd q (by decide), fun q => by omega⟩
  · rw [if_neg h]
    rw [hgt] at h
    by_cases h2 : a = b
    · rw [if_pos h2]
      rw [heq] at h2
      exact ⟨fun q => absurd q (by decide), fun q => by omega⟩
    · rw [if_neg h2]
      rw [heq] at h2
      exact ⟨fun _ => by omega, fun _ => by decide⟩
theorem nk_cg (a b : Int64) : 0 < lg_cmp a b ↔ b.toInt < a.toInt := by
  have hgt : (a > b) ↔ b.toInt < a.toInt := Int64.lt_iff_toInt_lt
  have heq : (a = b) ↔ a.toInt = b.toInt := Int64.toInt_inj.symm
  unfold lg_cmp
  by_cases h : a > b
  · rw [if_pos h]
    rw [hgt] at h
    exact ⟨fun _ => h, fun _ => by decide⟩
  · rw [if_neg h]
    rw [hgt] at h
    by_cases h2 : a = b
    · rw [if_pos h2]
      exact ⟨fun q => absurd q (by decide), fun q => absurd q h⟩
    · rw [if_neg h2]
      exact ⟨fun q => absurd q (by decide), fun q => absurd q h⟩
theorem nk_c0 : (0 : Int32).toInt = 0 := by decide
theorem nk_c1 : (1 : Int32).toInt = 1 := by decide
theorem nk_c2 : (2 : Int32).toInt = 2 := by decide
theorem nk_c3 : (3 : Int32).toInt = 3 := by decide
theorem nk_c4 : (4 : Int32).toInt = 4 := by decide
theorem nk_c5 : (5 : Int32).toInt = 5 := by decide
theorem nk_c6 : (6 : Int32).toInt = 6 := by decide
theorem nk_c7 : (7 : Int32).toInt = 7 := by decide
theorem nk_c8 : (8 : Int32).toInt = 8 := by decide
theorem nk_c9 : (9 : Int32).toInt = 9 := by decide
theorem nk_c10 : (10 : Int32).toInt = 10 := by decide
theorem nk_c11 : (11 : Int32).toInt = 11 := by decide
theorem nk_c12 : (12 : Int32).toInt = 12 := by decide
theorem nk_c13 : (13 : Int32).toInt = 13 := by decide
theorem nk_c14 : (14 : Int32).toInt = 14 := by decide
theorem nk_c15 : (15 : Int32).toInt = 15 := by decide
theorem nk_c16 : (16 : Int32).toInt = 16 := by decide
theorem nk_c17 : (17 : Int32).toInt = 17 := by decide
theorem nk_c18 : (18 : Int32).toInt = 18 := by decide
theorem nk_c19 : (19 : Int32).toInt = 19 := by decide
theorem nk_c20 : (20 : Int32).toInt = 20 := by decide
theorem nk_c21 : (21 : Int32).toInt = 21 := by decide
theorem nk_c22 : (22 : Int32).toInt = 22 := by decide
theorem nk_c23 : (23 : Int32).toInt = 23 := by decide
theorem nk_c24 : (24 : Int32).toInt = 24 := by decide
theorem nk_c25 : (25 : Int32).toInt = 25 := by decide
theorem nk_c26 : (26 : Int32).toInt = 26 := by decide
theorem nk_c27 : (27 : Int32).toInt = 27 := by decide
theorem nk_c28 : (28 : Int32).toInt = 28 := by decide
theorem nk_c29 : (29 : Int32).toInt = 29 := by decide
theorem nk_c30 : (30 : Int32).toInt = 30 := by decide
theorem nk_c31 : (31 : Int32).toInt = 31 := by decide
theorem nk_c32 : (32 : Int32).toInt = 32 := by decide
theorem nk_c33 : (33 : Int32).toInt = 33 := by decide
theorem nk_c34 : (34 : Int32).toInt = 34 := by decide
theorem nk_c35 : (35 : Int32).toInt = 35 := by decide
theorem nk_c36 : (36 : Int32).toInt = 36 := by decide
theorem nk_c37 : (37 : Int32).toInt = 37 := by decide
theorem nk_c38 : (38 : Int32).toInt = 38 := by decide
theorem nk_c39 : (39 : Int32).toInt = 39 := by decide
theorem nk_c40 : (40 : Int32).toInt = 40 := by decide
theorem nk_c41 : (41 : Int32).toInt = 41 := by decide
theorem nk_c42 : (42 : Int32).toInt = 42 := by decide
theorem nk_c43 : (43 : Int32).toInt = 43 := by decide
theorem nk_c44 : (44 : Int32).toInt = 44 := by decide
theorem nk_c45 : (45 : Int32).toInt = 45 := by decide
theorem nk_c46 : (46 : Int32).toInt = 46 := by decide
theorem nk_c47 : (47 : Int32).toInt = 47 := by decide
theorem nk_c48 : (48 : Int32).toInt = 48 := by decide
theorem nk_c255 : (255 : Int32).toInt = 255 := by decide
theorem nk_c600 : (600 : Int32).toInt = 600 := by decide
theorem nk_c1728 : (1728 : Int32).toInt = 1728 := by decide
theorem nk_c1000000 : (1000000 : Int32).toInt = 1000000 := by decide
theorem nk_m1 : (-1 : Int32).toInt = -1 := by decide
theorem nk_m2 : (-2 : Int32).toInt = -2 := by decide
theorem nk_m3 : (-3 : Int32).toInt = -3 := by decide
theorem nk_m4 : (-4 : Int32).toInt = -4 := by decide
theorem nk_m9 : (-9 : Int32).toInt = -9 := by decide
theorem nk_m18 : (-18 : Int32).toInt = -18 := by decide
theorem nk_m1000000 : (-1000000 : Int32).toInt = -1000000 := by decide
theorem nk_l0 : (0 : Int64).toInt = 0 := by decide
theorem nk_l1 : (1 : Int64).toInt = 1 := by decide
theorem nk_l2 : (2 : Int64).toInt = 2 := by decide
theorem nk_l3 : (3 : Int64).toInt = 3 := by decide
theorem nk_l5 : (5 : Int64).toInt = 5 := by decide
theorem nk_l15 : (15 : Int64).toInt = 15 := by decide
theorem nk_l24 : (24 : Int64).toInt = 24 := by decide
theorem nk_l47 : (47 : Int64).toInt = 47 := by decide
def sp_valid (s w : Int32) (n : Int) (y z : Int32) : Int32 := if (0 ≤ s.toInt ∧ s.toInt < 4) ∧ (0 ≤ w.toInt ∧ w.toInt < n) then y else z
def sp_v1 (s : Int32) (y z : Int32) : Int32 := if 0 ≤ s.toInt ∧ s.toInt < 4 then y else z
def sp_two (s o : Int32) (y z : Int32) : Int32 := if (0 ≤ s.toInt ∧ s.toInt < 4) ∧ (0 ≤ o.toInt ∧ o.toInt < 4) then y else z
def sp_most (w : Int32) : Int32 := if w.toInt < 0 ∨ 6 < w.toInt then -1000000 else if w.toInt = 5 then 15 else 0
def sp_count (w : Int32) : Int32 := if w.toInt < 0 ∨ 3 < w.toInt then -1000000 else if w.toInt = 3 then -1 else 0
def sp_end (n : Int32) : Int32 := if n.toInt = 0 then 1 else 0
