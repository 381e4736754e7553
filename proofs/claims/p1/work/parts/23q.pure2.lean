
/-! one row is the beginning of another -/
def q_pre (P Q : List qE) : Prop := ∃ R, Q = P ++ R
theorem q_pre_rf (Q : List qE) : q_pre Q Q := ⟨[], by simp⟩
theorem q_pre_tr {P Q R : List qE} (h : q_pre P Q) (h2 : q_pre Q R) : q_pre P R := by
  obtain ⟨a, rfl⟩ := h
  obtain ⟨b, rfl⟩ := h2
  exact ⟨a ++ b, by simp⟩
theorem q_pre_at {P Q : List qE} (h : q_pre P Q) {t : Nat} {e : qE} (ht : P[t]? = some e) : Q[t]? = some e := by
  obtain ⟨a, rfl⟩ := h
  have hl : t < P.length := (List.getElem?_eq_some_iff.mp ht).1
  rw [List.getElem?_append_left hl]
  exact ht
theorem q_pre_len {P Q : List qE} (h : q_pre P Q) : P.length ≤ Q.length := by
  obtain ⟨a, rfl⟩ := h
  simp
theorem q_lt {Q : List qE} {t : Nat} {e : qE} (ht : Q[t]? = some e) : t < Q.length := (List.getElem?_eq_some_iff.mp ht).1
theorem q_some {Q : List qE} {t : Nat} (h : t < Q.length) : ∃ e : qE, Q[t]? = some e := ⟨Q[t], List.getElem?_eq_getElem h⟩
theorem q_none {Q : List qE} {t : Nat} : Q[t]? = none ↔ Q.length ≤ t := List.getElem?_eq_none_iff
theorem q_see_yes {Q : List qE} {k d b : Nat} (h : q_has Q b = true) : q_see Q k d b = Q := by
  unfold q_see
  rw [h]
  rfl
theorem q_see_no {Q : List qE} {k d b : Nat} (h : q_has Q b = false) : q_see Q k d b = Q ++ [(b, k, d)] := by
  unfold q_see
  rw [h]
  rfl
theorem q_see_pre (Q : List qE) (k d b : Nat) : q_pre Q (q_see Q k d b) := by
  cases h : q_has Q b with
  | true => rw [q_see_yes h]; exact q_pre_rf Q
  | false => rw [q_see_no h]; exact ⟨_, rfl⟩
theorem q_sees_pre (k d : Nat) : ∀ (L : List Nat) (Q : List qE), q_pre Q (q_sees k d L Q)
  | [], Q => q_pre_rf Q
  | b :: L, Q => q_pre_tr (q_see_pre Q k d b) (q_sees_pre k d L _)
theorem q_sees_app (k d : Nat) : ∀ (L L' : List Nat) (Q : List qE), q_sees k d (L ++ L') Q = q_sees k d L' (q_sees k d L Q)
  | [], L', Q => rfl
  | b :: L, L', Q => q_sees_app k d L L' (q_see Q k d b)
theorem q_exp_none {Q : List qE} {k : Nat} (h : Q[k]? = none) : q_exp Q k = Q := by
  unfold q_exp
  rw [h]
theorem q_exp_some {Q : List qE} {k : Nat} {e : qE} (h : Q[k]? = some e) : q_exp Q k = q_sees k (e.2.2 + 1) (nb_of e.1) Q := by
  unfold q_exp
  rw [h]
theorem q_exp_pre (Q : List qE) (k : Nat) : q_pre Q (q_exp Q k) := by
  cases h : Q[k]? with
  | none => rw [q_exp_none h]; exact q_pre_rf Q
  | some e => rw [q_exp_some h]; exact q_sees_pre _ _ _ _
theorem q_at_pre (s : Nat) (k : Nat) : ∀ f, q_pre (q_at s k) (q_at s (k + f))
  | 0 => q_pre_rf _
  | f + 1 => q_pre_tr (q_at_pre s k f) (q_exp_pre _ _)
theorem q_at_stay {s k : Nat} (h : (q_at s k)[k]? = none) : ∀ f, q_at s (k + f) = q_at s k
  | 0 => rfl
  | f + 1 => by
    show q_exp (q_at s (k + f)) (k + f) = q_at s k
    rw [q_at_stay h f]
    exact q_exp_none (q_none.mpr (Nat.le_trans (q_none.mp h) (by omega)))
theorem q_has_iff {Q : List qE} {b : Nat} : q_has Q b = true ↔ ∃ (t : Nat) (e : qE), Q[t]? = some e ∧ e.1 / 32 = b / 32 := by
  unfold q_has
  rw [List.any_eq_true]
  constructor
  · rintro ⟨e, he, h⟩
    obtain ⟨t, ht⟩ := List.mem_iff_getElem?.mp he
    exact ⟨t, e, ht, Nat.eq_of_beq_eq_true h⟩
  · rintro ⟨t, e, ht, h⟩
    exact ⟨e, List.mem_of_getElem? ht, by rw [Nat.beq_eq]; exact h⟩
theorem q_app {Q : List qE} {e : qE} {t : Nat} {e' : qE} (h : (Q ++ [e])[t]? = some e') : Q[t]? = some e' ∨ (t = Q.length ∧ e' = e) := by
  rcases Nat.lt_or_ge t Q.length with q | q
  · rw [List.getElem?_append_left q] at h
    exact Or.inl h
  · have hl := q_lt h
    rw [List.length_append] at hl
    have : t = Q.length := by
      have : [e].length = 1 := rfl
      omega
    subst this
    rw [List.getElem?_concat_length] at h
    exact Or.inr ⟨rfl, (Option.some.inj h).symm⟩
theorem q_app_old {Q : List qE} {e e' : qE} {t : Nat} (h : Q[t]? = some e') : (Q ++ [e])[t]? = some e' := q_pre_at ⟨_, rfl⟩ h
/-! what holds of every such row -/
def q_in (V : Nat) (Q : List qE) : Prop := ∀ (t : Nat) (e : qE), Q[t]? = some e → bx_in V e.1
def q_wf (Q : List qE) : Prop := (∀ (t : Nat) (e : qE), Q[t]? = some e → (t = 0 ∧ e.2.1 = 0 ∧ e.2.2 = 0) ∨ (0 < t ∧ e.2.1 < t ∧ ∃ e' : qE, Q[e.2.1]? = some e' ∧ e.2.2 = e'.2.2 + 1)) ∧ (∀ (t t' : Nat) (e e' : qE), Q[t]? = some e → Q[t']? = some e' → e.1 / 32 = e'.1 / 32 → t = t')
theorem q_in_add {V : Nat} {Q : List qE} (h : q_in V Q) {k d b : Nat} (hb : bx_in V b) : q_in V (q_see Q k d b) := by
  cases hh : q_has Q b with
  | true => rw [q_see_yes hh]; exact h
  | false =>
    rw [q_see_no hh]
    intro t e ht
    rcases q_app ht with q | ⟨rfl, rfl⟩
    · exact h t e q
    · exact hb
theorem q_in_adds {V k d : Nat} : ∀ {L : List Nat} {Q : List qE}, q_in V Q → (∀ b ∈ L, bx_in V b) → q_in V (q_sees k d L Q)
  | [], Q, h, _ => h
  | b :: L, Q, h, hL => q_in_adds (L := L) (q_in_add h (hL b List.mem_cons_self)) (fun b' h' => hL b' (List.mem_cons_of_mem _ h'))
theorem q_wf_add {Q : List qE} (h : q_wf Q) {k b : Nat} {e0 : qE} (hk : Q[k]? = some e0) : q_wf (q_see Q k (e0.2.2 + 1) b) := by
  cases hh : q_has Q b with
  | true => rw [q_see_yes hh]; exact h
  | false =>
    rw [q_see_no hh]
    have hkl := q_lt hk
    refine ⟨fun t e ht => ?_, fun t t' e e' ht ht' he => ?_⟩
    · rcases q_app ht with q | ⟨rfl, rfl⟩
      · rcases h.1 t e q with a | ⟨a, b1, e', c, d⟩
        · exact Or.inl a
        · exact Or.inr ⟨a, b1, e', q_app_old c, d⟩
      · exact Or.inr ⟨by omega, hkl, e0, q_app_old hk, rfl⟩
    · rcases q_app ht with q | ⟨rfl, rfl⟩
      · rcases q_app ht' with q' | ⟨rfl, rfl⟩
        · exact h.2 t t' e e' q q' he
        · exact absurd (q_has_iff.mpr ⟨t, e, q, he⟩) (by rw [hh]; exact Bool.false_ne_true)
      · rcases q_app ht' with q' | ⟨q', rfl⟩
        · exact absurd (q_has_iff.mpr ⟨t', e', q', he.symm⟩) (by rw [hh]; exact Bool.false_ne_true)
        · exact q'.symm
theorem q_wf_adds {k : Nat} {e0 : qE} : ∀ {L : List Nat} {Q : List qE}, q_wf Q → Q[k]? = some e0 → q_wf (q_sees k (e0.2.2 + 1) L Q)
  | [], _, h, _ => h
  | b :: L, Q, h, hk => q_wf_adds (L := L) (q_wf_add h hk) (q_pre_at (q_see_pre Q k (e0.2.2 + 1) b) hk)
theorem q_at_ok {V s : Nat} (hs : bx_in V s) : ∀ k, q_in V (q_at s k) ∧ q_wf (q_at s k)
  | 0 => by
    have h0 : ∀ (t : Nat) (e : qE), ([(s, 0, 0)] : List qE)[t]? = some e → t = 0 ∧ e = (s, 0, 0) := fun t e h => by
      have hl := q_lt h
      have : t = 0 := by
        have : ([(s, 0, 0)] : List qE).length = 1 := rfl
        omega
      subst this
      exact ⟨rfl, (Option.some.inj h).symm⟩
    refine ⟨fun t e h => ?_, fun t e h => ?_, fun t t' e e' h h' _ => ?_⟩
    · obtain ⟨-, rfl⟩ := h0 t e h
      exact hs
    · obtain ⟨rfl, rfl⟩ := h0 t e h
      exact Or.inl ⟨rfl, rfl, rfl⟩
    · exact (h0 t e h).1.trans (h0 t' e' h').1.symm
  | k + 1 => by
    obtain ⟨a, b⟩ := q_at_ok hs k
    show q_in V (q_exp (q_at s k) k) ∧ q_wf (q_exp (q_at s k) k)
    cases hk : (q_at s k)[k]? with
    | none => rw [q_exp_none hk]; exact ⟨a, b⟩
    | some e => rw [q_exp_some hk]; exact ⟨q_in_adds a (nb_of_in (a k e hk)), q_wf_adds b hk⟩
theorem q_at_0 {s : Nat} : ∀ k, (q_at s k)[0]? = some (s, 0, 0)
  | 0 => rfl
  | k + 1 => q_pre_at (q_exp_pre (q_at s k) k) (q_at_0 k)
/-- from a place up to the first one -/
theorem q_chain {Q : List qE} (hw : q_wf Q) : ∀ (d t : Nat) (e : qE), Q[t]? = some e → e.2.2 = d → ∃ h : Nat → Nat, h 0 = t ∧ h d = 0 ∧ d ≤ t ∧ ∀ i, i < d → (0 < h i ∧ h i + i ≤ t ∧ ∃ ei : qE, Q[h i]? = some ei ∧ ei.2.1 = h (i + 1))
  | 0, t, e, he, hd => by
    have ht : t = 0 := by
      rcases hw.1 t e he with ⟨a, -, -⟩ | ⟨-, -, e', -, c⟩
      · exact a
      · omega
    exact ⟨fun _ => t, rfl, ht, by omega, fun i hi => absurd hi (by omega)⟩
  | d + 1, t, e, he, hd => by
    rcases hw.1 t e he with ⟨-, -, c⟩ | ⟨ht, hp, e', he', hd'⟩
    · omega
    · obtain ⟨h, h0, h1, h2, h3⟩ := q_chain hw d e.2.1 e' he' (by omega)
      refine ⟨fun i => match i with
        | 0 => t
        | i + 1 => h i, rfl, h1, by omega, fun i hi => ?_⟩
      match i, hi with
      | 0, _ => exact ⟨ht, by show t + 0 ≤ t; omega, e, he, h0.symm⟩
      | i + 1, hi =>
        obtain ⟨a, b, c⟩ := h3 i (by omega)
        exact ⟨a, by show h i + (i + 1) ≤ t; omega, c⟩
/-! the quick one says the same -/
def mk_ok (Q : List qE) (M : Nat) : Prop := ∀ c, M.testBit c = Q.any (fun e => Nat.beq (e.1 / 32) c)
theorem m_tb (M c : Nat) : Nat.beq (M / 2 ^ c % 2) 1 = M.testBit c := by
  rw [Nat.testBit_eq_decide_div_mod_eq, Bool.eq_iff_iff, Nat.beq_eq, decide_eq_true_eq]
theorem mk_ok_add {Q : List qE} {M : Nat} (h : mk_ok Q M) (b k d : Nat) : mk_ok (Q ++ [(b, k, d)]) (M ||| 2 ^ (b / 32)) := by
  intro c
  rw [Nat.testBit_or, h c, List.any_append, Nat.testBit_two_pow]
  congr 1
  rw [Bool.eq_iff_iff, decide_eq_true_eq, List.any_eq_true]
  constructor
  · rintro rfl
    exact ⟨(b, k, d), List.mem_singleton.mpr rfl, Nat.beq_refl _⟩
  · rintro ⟨e, he, h⟩
    rw [List.mem_singleton.mp he] at h
    exact Nat.eq_of_beq_eq_true h
theorem m_sees_eq {k d : Nat} : ∀ (L : List Nat) (Q : List qE) (M : Nat), mk_ok Q M → (m_sees k d L Q M).1 = q_sees k d L Q ∧ mk_ok (m_sees k d L Q M).1 (m_sees k d L Q M).2
  | [], Q, M, h => ⟨rfl, h⟩
  | b :: L, Q, M, h => by
    unfold m_sees q_sees
    have hb : Nat.beq (M / 2 ^ (b / 32) % 2) 1 = q_has Q b := (m_tb M (b / 32)).trans (h (b / 32))
    rw [hb]
    cases hh : q_has Q b with
    | true =>
      rw [q_see_yes hh]
      exact m_sees_eq L Q M h
    | false =>
      rw [q_see_no hh]
      exact m_sees_eq L _ _ (mk_ok_add h b k d)
theorem m_run_eq {V s : Nat} (hs : bx_in V s) : ∀ (f k M : Nat), mk_ok (q_at s k) M → m_run f k (q_at s k) M = q_at s (k + f)
  | 0, k, M, _ => by
    unfold m_run
    rfl
  | f + 1, k, M, h => by
    unfold m_run
    cases hk : (q_at s k)[k]? with
    | none => exact (q_at_stay hk (f + 1)).symm
    | some e =>
      obtain ⟨b, pk, d⟩ := e
      cases b with
      | zero =>
        obtain ⟨x, y, z, hx, hy, hz, -, h9⟩ := (q_at_ok hs k).1 k _ hk
        unfold bx_mk at h9
        have h9 : 0 = x * 1024 + y * 32 + z := h9
        omega
      | succ b =>
        obtain ⟨h1, h2⟩ := m_sees_eq (k := k) (d := d + 1) (nb_of (b + 1)) (q_at s k) M h
        have h3 : (m_sees k (d + 1) (nb_of (b + 1)) (q_at s k) M).1 = q_at s (k + 1) := by
          rw [h1]
          exact (q_exp_some hk).symm
        show m_run f (k + 1) (m_sees k (d + 1) (nb_of (b + 1)) (q_at s k) M).1 (m_sees k (d + 1) (nb_of (b + 1)) (q_at s k) M).2 = q_at s (k + (f + 1))
        rw [h3] at h2 ⊢
        rw [show k + (f + 1) = (k + 1) + f by omega]
        exact m_run_eq hs f (k + 1) _ h2
theorem q_fin_of {x y z : Nat} (hx : 1 ≤ x ∧ x ≤ 24) (hy : 1 ≤ y ∧ y ≤ 24) (hz : 1 ≤ z ∧ z ≤ 24) (h : v_one x y (x * y * z) = true) : (q_at (bx_mk x y z) 97).length ≤ 96 ∧ ∀ (t : Nat) (e : qE), (q_at (bx_mk x y z) 97)[t]? = some e → e.2.2 ≤ 60 := by
  have hp : 0 < x * y := Nat.mul_pos hx.1 hy.1
  unfold v_one at h
  rw [Nat.mul_mod_right, Nat.mul_div_cancel_left z hp] at h
  have h1 : (Nat.beq 0 0 && Nat.ble z 24) = true := by
    rw [Bool.and_eq_true, Nat.beq_eq, Nat.ble_eq]
    exact ⟨rfl, hz.2⟩
  rw [h1] at h
  have hs : bx_in (x * y * z) (bx_mk x y z) := ⟨x, y, z, hx, hy, hz, rfl, rfl⟩
  have h2 : m_run 97 0 (q_at (bx_mk x y z) 0) (2 ^ (bx_mk x y z / 32)) = q_at (bx_mk x y z) (0 + 97) := m_run_eq hs 97 0 _ (by
    intro c
    rw [Nat.testBit_two_pow]
    show decide (bx_mk x y z / 32 = c) = (Nat.beq (bx_mk x y z / 32) c || false)
    rw [Bool.or_false, Bool.eq_iff_iff, decide_eq_true_eq, Nat.beq_eq])
  have h3 : m_good (m_run 97 0 (q_at (bx_mk x y z) 0) (2 ^ (bx_mk x y z / 32))) = true := h
  rw [h2] at h3
  unfold m_good at h3
  rw [Bool.and_eq_true, Nat.ble_eq, List.all_eq_true] at h3
  exact ⟨h3.2, fun t e ht => Nat.le_of_ble_eq_true (h3.1 e (List.mem_of_getElem? ht))⟩
