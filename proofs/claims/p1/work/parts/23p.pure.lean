
/-! boxes as one number, and the steps, plainly -/
abbrev qE : Type := Nat × Nat × Nat
def bx_mk (x y z : Nat) : Nat := x * 1024 + y * 32 + z
def bx_cd (b : Nat) : Nat := (b / 1024 - 1) * 24 + (b / 32 % 32 - 1)
def sd (x y z i : Nat) : Nat := match i with
  | 0 => x
  | 1 => y
  | _ => z
def st_ok (u v n : Nat) : Bool := (Nat.beq (u % n) 0) && ((Nat.beq (v % (n - 1)) 0) && Nat.ble (v / (n - 1) * n) 24)
def st_at (x y z i j n a : Nat) : Nat := if a = i then sd x y z i / n * (n - 1) else if a = j then sd x y z j / (n - 1) * n else sd x y z a
def st_go (x y z i j n : Nat) : Nat := bx_mk (st_at x y z i j n 0) (st_at x y z i j n 1) (st_at x y z i j n 2)
def nb_n (x y z i j : Nat) : Nat → Nat → List Nat
  | 0, _ => []
  | m + 1, n => bif st_ok (sd x y z i) (sd x y z j) n then st_go x y z i j n :: nb_n x y z i j m (n + 1) else nb_n x y z i j m (n + 1)
def nb_ax (x y z : Nat) : Nat → Nat → List Nat
  | 0, _ => []
  | m + 1, t => (bif Nat.beq (t / 3) (t % 3) then [] else nb_n x y z (t / 3) (t % 3) 23 2) ++ nb_ax x y z m (t + 1)
def nb_of (b : Nat) : List Nat := nb_ax (b / 1024) (b / 32 % 32) (b % 32) 9 0
def q_has (Q : List qE) (b : Nat) : Bool := Q.any (fun e => Nat.beq (e.1 / 32) (b / 32))
def q_see (Q : List qE) (k d b : Nat) : List qE := bif q_has Q b then Q else Q ++ [(b, k, d)]
def q_sees (k d : Nat) : List Nat → List qE → List qE
  | [], Q => Q
  | b :: L, Q => q_sees k d L (q_see Q k d b)
def q_exp (Q : List qE) (k : Nat) : List qE := match Q[k]? with
  | none => Q
  | some e => q_sees k (e.2.2 + 1) (nb_of e.1) Q
def q_at (s : Nat) : Nat → List qE
  | 0 => [(s, 0, 0)]
  | k + 1 => q_exp (q_at s k) k
/-! the same, with a number that holds what was seen -/
def m_sees (k d : Nat) : List Nat → List qE → Nat → List qE × Nat
  | [], Q, M => (Q, M)
  | b :: L, Q, M => bif Nat.beq (M / 2 ^ (b / 32) % 2) 1 then m_sees k d L Q M else m_sees k d L (Q ++ [(b, k, d)]) (M ||| 2 ^ (b / 32))
def m_run : Nat → Nat → List qE → Nat → List qE
  | 0, _, Q, _ => Q
  | f + 1, k, Q, M => match Q[k]? with
    | none => Q
    | some (0, _, _) => Q
    | some (b + 1, _, d) => m_run f (k + 1) (m_sees k (d + 1) (nb_of (b + 1)) Q M).1 (m_sees k (d + 1) (nb_of (b + 1)) Q M).2
def m_good (Q : List qE) : Bool := Q.all (fun e => Nat.ble e.2.2 60) && Nat.ble Q.length 96
def v_one (x y V : Nat) : Bool := bif (Nat.beq (V % (x * y)) 0 && Nat.ble (V / (x * y)) 24) then m_good (m_run 97 0 [(bx_mk x y (V / (x * y)), 0, 0)] (2 ^ (bx_mk x y (V / (x * y)) / 32))) else true
def v_ys (x V : Nat) : Nat → Bool
  | 0 => true
  | y + 1 => v_one x (y + 1) V && v_ys x V y
def v_xs (V : Nat) : Nat → Bool
  | 0 => true
  | x + 1 => v_ys (x + 1) V 24 && v_xs V x
def v_vs (lo : Nat) : Nat → Bool
  | 0 => true
  | n + 1 => v_xs (lo + n) 24 && v_vs lo n
theorem v_ys_at {x V : Nat} : ∀ {n : Nat}, v_ys x V n = true → ∀ y, 1 ≤ y → y ≤ n → v_one x y V = true
  | 0, _, y, h1, h2 => absurd h1 (by omega)
  | n + 1, h, y, h1, h2 => by
    unfold v_ys at h
    rw [Bool.and_eq_true] at h
    rcases (show y = n + 1 ∨ y ≤ n by omega) with rfl | q
    · exact h.1
    · exact v_ys_at h.2 y h1 q
theorem v_xs_at {V : Nat} : ∀ {n : Nat}, v_xs V n = true → ∀ x y, 1 ≤ x → x ≤ n → 1 ≤ y → y ≤ 24 → v_one x y V = true
  | 0, _, x, y, h1, h2, _, _ => absurd h1 (by omega)
  | n + 1, h, x, y, h1, h2, h3, h4 => by
    unfold v_xs at h
    rw [Bool.and_eq_true] at h
    rcases (show x = n + 1 ∨ x ≤ n by omega) with rfl | q
    · exact v_ys_at h.1 y h3 h4
    · exact v_xs_at h.2 x y h1 q h3 h4
theorem v_vs_at {lo : Nat} : ∀ {n : Nat}, v_vs lo n = true → ∀ V x y, lo ≤ V → V < lo + n → 1 ≤ x → x ≤ 24 → 1 ≤ y → y ≤ 24 → v_one x y V = true
  | 0, _, V, x, y, h1, h2, _, _, _, _ => absurd h1 (by omega)
  | n + 1, h, V, x, y, h1, h2, h3, h4, h5, h6 => by
    unfold v_vs at h
    rw [Bool.and_eq_true] at h
    rcases (show V = lo + n ∨ V < lo + n by omega) with rfl | q
    · exact v_xs_at h.1 x y h3 h4 h5 h6
    · exact v_vs_at h.2 V x y h1 q h3 h4 h5 h6
/-! boxes of one volume -/
def bx_in (V b : Nat) : Prop := ∃ x y z : Nat, (1 ≤ x ∧ x ≤ 24) ∧ (1 ≤ y ∧ y ≤ 24) ∧ (1 ≤ z ∧ z ≤ 24) ∧ x * y * z = V ∧ b = bx_mk x y z
theorem bx_x {x y z : Nat} (hy : y < 32) (hz : z < 32) : bx_mk x y z / 1024 = x := by
  unfold bx_mk
  omega
theorem bx_y {x y z : Nat} (hy : y < 32) (hz : z < 32) : bx_mk x y z / 32 % 32 = y := by
  unfold bx_mk
  omega
theorem bx_z {x y z : Nat} (hz : z < 32) : bx_mk x y z % 32 = z := by
  unfold bx_mk
  omega
theorem bx_h {x y z : Nat} (hz : z < 32) : bx_mk x y z / 32 = x * 32 + y := by
  unfold bx_mk
  omega
theorem bx_cd_mk {x y z : Nat} (hy : y < 32) (hz : z < 32) : bx_cd (bx_mk x y z) = (x - 1) * 24 + (y - 1) := by
  unfold bx_cd
  rw [bx_x hy hz, bx_y hy hz]
theorem bx_cd_lt {V b : Nat} (h : bx_in V b) : bx_cd b < 576 := by
  obtain ⟨x, y, z, hx, hy, hz, -, rfl⟩ := h
  rw [bx_cd_mk (by omega) (by omega)]
  omega
theorem bx_same {V b b' : Nat} (h : bx_in V b) (h' : bx_in V b') (e : b / 32 = b' / 32) : b = b' := by
  obtain ⟨x, y, z, hx, hy, hz, hv, rfl⟩ := h
  obtain ⟨x', y', z', hx', hy', hz', hv', rfl⟩ := h'
  rw [bx_h (by omega), bx_h (by omega)] at e
  have h1 : x = x' := by omega
  have h2 : y = y' := by omega
  subst h1
  subst h2
  have h3 : z = z' := Nat.eq_of_mul_eq_mul_left (Nat.mul_pos hx.1 hy.1) (hv.trans hv'.symm)
  rw [h3]
theorem bx_cd_eq {V V' b b' : Nat} (h : bx_in V b) (h' : bx_in V' b') : bx_cd b = bx_cd b' ↔ b / 32 = b' / 32 := by
  obtain ⟨x, y, z, hx, hy, hz, hv, rfl⟩ := h
  obtain ⟨x', y', z', hx', hy', hz', hv', rfl⟩ := h'
  rw [bx_h (by omega), bx_h (by omega), bx_cd_mk (by omega) (by omega), bx_cd_mk (by omega) (by omega)]
  omega
theorem st_mul {s t n : Nat} (hs : s % n = 0) (ht : t % (n - 1) = 0) : (s / n * (n - 1)) * (t / (n - 1) * n) = s * t := by
  have a : n * (s / n) = s := Nat.mul_div_cancel' (Nat.dvd_of_mod_eq_zero hs)
  have b : (n - 1) * (t / (n - 1)) = t := Nat.mul_div_cancel' (Nat.dvd_of_mod_eq_zero ht)
  calc (s / n * (n - 1)) * (t / (n - 1) * n) = (n * (s / n)) * ((n - 1) * (t / (n - 1))) := by simp only [Nat.mul_comm, Nat.mul_left_comm, Nat.mul_assoc]
    _ = s * t := by rw [a, b]
theorem st_lo {s n : Nat} (hn : 2 ≤ n) (h1 : 1 ≤ s) (h2 : s ≤ 24) (hs : s % n = 0) : 1 ≤ s / n * (n - 1) ∧ s / n * (n - 1) ≤ 24 := by
  have a : s / n * n = s := Nat.div_mul_cancel (Nat.dvd_of_mod_eq_zero hs)
  have b : 1 ≤ s / n := by
    rcases Nat.eq_zero_or_pos (s / n) with q | q
    · rw [q] at a
      omega
    · exact q
  have c : s / n * (n - 1) ≤ s / n * n := Nat.mul_le_mul_left _ (by omega)
  have d : 1 * 1 ≤ s / n * (n - 1) := Nat.mul_le_mul b (by omega)
  omega
theorem st_hi {t n : Nat} (hn : 2 ≤ n) (h1 : 1 ≤ t) (ht : t % (n - 1) = 0) : 1 ≤ t / (n - 1) * n := by
  have a : t / (n - 1) * (n - 1) = t := Nat.div_mul_cancel (Nat.dvd_of_mod_eq_zero ht)
  have c : t / (n - 1) * (n - 1) ≤ t / (n - 1) * n := Nat.mul_le_mul_left _ (by omega)
  omega
theorem st_ok_iff {u v n : Nat} : st_ok u v n = true ↔ u % n = 0 ∧ v % (n - 1) = 0 ∧ v / (n - 1) * n ≤ 24 := by
  unfold st_ok
  rw [Bool.and_eq_true, Bool.and_eq_true, Nat.beq_eq, Nat.beq_eq, Nat.ble_eq]
theorem st_go_in {V x y z i j n : Nat} (hx : 1 ≤ x ∧ x ≤ 24) (hy : 1 ≤ y ∧ y ≤ 24) (hz : 1 ≤ z ∧ z ≤ 24) (hv : x * y * z = V) (hi : i < 3) (hj : j < 3) (hij : i ≠ j) (hn : 2 ≤ n) (ok : st_ok (sd x y z i) (sd x y z j) n = true) : bx_in V (st_go x y z i j n) := by
  obtain ⟨o1, o2, o3⟩ := st_ok_iff.mp ok
  have hm : ∀ {s t r : Nat}, s % n = 0 → t % (n - 1) = 0 → s * t * r = V → (s / n * (n - 1)) * (t / (n - 1) * n) * r = V := fun a b c => by rw [st_mul a b]; exact c
  rcases (show i = 0 ∨ i = 1 ∨ i = 2 by omega) with rfl | rfl | rfl <;> rcases (show j = 0 ∨ j = 1 ∨ j = 2 by omega) with rfl | rfl | rfl
  · exact absurd rfl hij
  · have o1 : x % n = 0 := o1
    have o2 : y % (n - 1) = 0 := o2
    have o3 : y / (n - 1) * n ≤ 24 := o3
    exact ⟨x / n * (n - 1), y / (n - 1) * n, z, st_lo hn hx.1 hx.2 o1, ⟨st_hi hn hy.1 o2, o3⟩, hz, hm o1 o2 hv, rfl⟩
  · have o1 : x % n = 0 := o1
    have o2 : z % (n - 1) = 0 := o2
    have o3 : z / (n - 1) * n ≤ 24 := o3
    exact ⟨x / n * (n - 1), y, z / (n - 1) * n, st_lo hn hx.1 hx.2 o1, hy, ⟨st_hi hn hz.1 o2, o3⟩, (by rw [Nat.mul_right_comm]; exact hm o1 o2 (by rw [Nat.mul_right_comm]; exact hv)), rfl⟩
  · have o1 : y % n = 0 := o1
    have o2 : x % (n - 1) = 0 := o2
    have o3 : x / (n - 1) * n ≤ 24 := o3
    exact ⟨x / (n - 1) * n, y / n * (n - 1), z, ⟨st_hi hn hx.1 o2, o3⟩, st_lo hn hy.1 hy.2 o1, hz, (by rw [Nat.mul_comm (x / (n - 1) * n) (y / n * (n - 1))]; exact hm o1 o2 (by rw [Nat.mul_comm y x]; exact hv)), rfl⟩
  · exact absurd rfl hij
  · have o1 : y % n = 0 := o1
    have o2 : z % (n - 1) = 0 := o2
    have o3 : z / (n - 1) * n ≤ 24 := o3
    exact ⟨x, y / n * (n - 1), z / (n - 1) * n, hx, st_lo hn hy.1 hy.2 o1, ⟨st_hi hn hz.1 o2, o3⟩, (by rw [Nat.mul_assoc, Nat.mul_comm]; exact hm o1 o2 (by rw [Nat.mul_comm, ← Nat.mul_assoc]; exact hv)), rfl⟩
  · have o1 : z % n = 0 := o1
    have o2 : x % (n - 1) = 0 := o2
    have o3 : x / (n - 1) * n ≤ 24 := o3
    exact ⟨x / (n - 1) * n, y, z / n * (n - 1), ⟨st_hi hn hx.1 o2, o3⟩, hy, st_lo hn hz.1 hz.2 o1, (by rw [Nat.mul_right_comm, Nat.mul_comm (x / (n - 1) * n) (z / n * (n - 1))]; exact hm o1 o2 (by rw [Nat.mul_comm z x, Nat.mul_right_comm]; exact hv)), rfl⟩
  · have o1 : z % n = 0 := o1
    have o2 : y % (n - 1) = 0 := o2
    have o3 : y / (n - 1) * n ≤ 24 := o3
    exact ⟨x, y / (n - 1) * n, z / n * (n - 1), hx, ⟨st_hi hn hy.1 o2, o3⟩, st_lo hn hz.1 hz.2 o1, (by rw [Nat.mul_assoc, Nat.mul_comm, Nat.mul_comm (y / (n - 1) * n) (z / n * (n - 1))]; exact hm o1 o2 (by rw [Nat.mul_comm, Nat.mul_comm z y, ← Nat.mul_assoc]; exact hv)), rfl⟩
  · exact absurd rfl hij
theorem nb_n_mem (x y z i j : Nat) : ∀ (m n b : Nat), b ∈ nb_n x y z i j m n → ∃ n', n ≤ n' ∧ st_ok (sd x y z i) (sd x y z j) n' = true ∧ b = st_go x y z i j n'
  | 0, n, b, h => by
    unfold nb_n at h
    exact absurd h List.not_mem_nil
  | m + 1, n, b, h => by
    unfold nb_n at h
    cases hk : st_ok (sd x y z i) (sd x y z j) n with
    | true =>
      rw [hk] at h
      rcases List.mem_cons.mp h with h | h
      · exact ⟨n, Nat.le_refl n, hk, h⟩
      · obtain ⟨n', a, c⟩ := nb_n_mem x y z i j m (n + 1) b h
        exact ⟨n', by omega, c⟩
    | false =>
      rw [hk] at h
      obtain ⟨n', a, c⟩ := nb_n_mem x y z i j m (n + 1) b h
      exact ⟨n', by omega, c⟩
theorem nb_ax_in {V x y z : Nat} (hx : 1 ≤ x ∧ x ≤ 24) (hy : 1 ≤ y ∧ y ≤ 24) (hz : 1 ≤ z ∧ z ≤ 24) (hv : x * y * z = V) : ∀ (m t : Nat), t + m ≤ 9 → ∀ b ∈ nb_ax x y z m t, bx_in V b
  | 0, t, _, b, h => by
    unfold nb_ax at h
    exact absurd h List.not_mem_nil
  | m + 1, t, ht, b, h => by
    unfold nb_ax at h
    rcases List.mem_append.mp h with h | h
    · cases hk : Nat.beq (t / 3) (t % 3) with
      | true =>
        rw [hk] at h
        exact absurd h List.not_mem_nil
      | false =>
        rw [hk] at h
        obtain ⟨n', a, c, rfl⟩ := nb_n_mem x y z _ _ 23 2 b h
        exact st_go_in hx hy hz hv (by omega) (by omega) (Nat.ne_of_beq_eq_false hk) a c
    · exact nb_ax_in hx hy hz hv m (t + 1) (by omega) b h
theorem nb_of_in {V b : Nat} (h : bx_in V b) : ∀ b' ∈ nb_of b, bx_in V b' := by
  obtain ⟨x, y, z, hx, hy, hz, hv, rfl⟩ := h
  unfold nb_of
  rw [bx_x (by omega) (by omega), bx_y (by omega) (by omega), bx_z (by omega)]
  exact nb_ax_in hx hy hz hv 9 0 (by omega)
