
/-! the search by levels, with a number that holds what was seen: quick for the kernel -/
def l_step (ih : List Nat → List Nat → List Nat → Nat → Nat → Nat → Bool) (es cur nxt : List Nat) (d M c : Nat) : Bool := match es with
  | b :: es => bif Nat.beq (M / 2 ^ (b / 32) % 2) 1 then ih es cur nxt d M c else ih es cur (b :: nxt) d (M ||| 2 ^ (b / 32)) (c + 1)
  | [] => match cur with
    | 0 :: _ => false
    | (b + 1) :: cur => ih (nb_of (b + 1)) cur nxt d M c
    | [] => match nxt with
      | [] => Nat.ble d 60 && Nat.ble c 96
      | x :: r => ih [] (x :: r).reverse [] (d + 1) M c
noncomputable def l_run (f : Nat) : List Nat → List Nat → List Nat → Nat → Nat → Nat → Bool := Nat.rec (fun _ _ _ _ _ _ => false) (fun _ ih => l_step ih) f
theorem l_run_s (f : Nat) : l_run (f + 1) = l_step (l_run f) := rfl
def l_pr (e : qE) : Nat × Nat := (e.1, e.2.2)
/-- where the quick one stands, beside the row of boxes -/
def l_inv (s k : Nat) (Q : List qE) (es cur nxt : List Nat) (d M c : Nat) : Prop := q_sees k (d + 1) es Q = q_at s (k + 1) ∧ mk_ok Q M ∧ Q.length = c ∧ k < Q.length ∧ (Q.drop (k + 1)).map l_pr = cur.map (fun b => (b, d)) ++ nxt.reverse.map (fun b => (b, d + 1)) ∧ ∀ (t : Nat) (e : qE), t ≤ k → Q[t]? = some e → e.2.2 ≤ d
theorem l_run_ok {s : Nat} : ∀ (f k : Nat) (Q : List qE) (es cur nxt : List Nat) (d M c : Nat), l_inv s k Q es cur nxt d M c → l_run f es cur nxt d M c = true → ∃ K, K ≤ 96 ∧ (q_at s K).length ≤ K ∧ ∀ (t : Nat) (e : qE), (q_at s K)[t]? = some e → e.2.2 ≤ 60
  | 0, _, _, _, _, _, _, _, _, _, h => Bool.noConfusion h
  | f + 1, k, Q, b :: es, cur, nxt, d, M, c, hi, h => by
    rw [l_run_s] at h
    obtain ⟨h1, h2, h3, h4, h5, h6⟩ := hi
    have hb : Nat.beq (M / 2 ^ (b / 32) % 2) 1 = q_has Q b := (m_tb M (b / 32)).trans (h2 (b / 32))
    have h : (bif Nat.beq (M / 2 ^ (b / 32) % 2) 1 then l_run f es cur nxt d M c else l_run f es cur (b :: nxt) d (M ||| 2 ^ (b / 32)) (c + 1)) = true := h
    rw [hb] at h
    have h1 : q_sees k (d + 1) es (q_see Q k (d + 1) b) = q_at s (k + 1) := h1
    cases hh : q_has Q b with
    | true =>
      rw [hh] at h
      rw [q_see_yes hh] at h1
      exact l_run_ok f k Q es cur nxt d M c ⟨h1, h2, h3, h4, h5, h6⟩ h
    | false =>
      rw [hh] at h
      rw [q_see_no hh] at h1
      refine l_run_ok f k (Q ++ [(b, k, d + 1)]) es cur (b :: nxt) d (M ||| 2 ^ (b / 32)) (c + 1) ⟨h1, mk_ok_add h2 b k (d + 1), ?_, ?_, ?_, ?_⟩ h
      · rw [← nk_len, h3]
      · rw [← nk_len]
        omega
      · rw [List.drop_append_of_le_length (by omega), List.map_append, h5, List.reverse_cons, List.map_append, List.append_assoc]
        rfl
      · intro t e ht he
        rcases q_app he with q | ⟨q, -⟩
        · exact h6 t e ht q
        · omega
  | f + 1, k, Q, [], [], [], d, M, c, hi, h => by
    rw [l_run_s] at h
    obtain ⟨h1, h2, h3, h4, h5, h6⟩ := hi
    have h : (Nat.ble d 60 && Nat.ble c 96) = true := h
    rw [Bool.and_eq_true, Nat.ble_eq, Nat.ble_eq] at h
    have h1 : Q = q_at s (k + 1) := h1
    have h5 : (Q.drop (k + 1)).map l_pr = [] := h5
    have h7 := List.drop_eq_nil_iff.mp (List.map_eq_nil_iff.mp h5)
    refine ⟨k + 1, by omega, by rw [← h1]; exact h7, fun t e he => ?_⟩
    rw [← h1] at he
    have := q_lt he
    exact Nat.le_trans (h6 t e (by omega) he) h.1
  | f + 1, k, Q, [], [], x :: r, d, M, c, hi, h => by
    rw [l_run_s] at h
    obtain ⟨h1, h2, h3, h4, h5, h6⟩ := hi
    have h : l_run f [] (x :: r).reverse [] (d + 1) M c = true := h
    refine l_run_ok f k Q [] (x :: r).reverse [] (d + 1) M c ⟨h1, h2, h3, h4, ?_, fun t e ht he => Nat.le_succ_of_le (h6 t e ht he)⟩ h
    rw [h5]
    simp
  | f + 1, k, Q, [], 0 :: cur, nxt, d, M, c, hi, h => by
    rw [l_run_s] at h
    exact Bool.noConfusion h
  | f + 1, k, Q, [], (b + 1) :: cur, nxt, d, M, c, hi, h => by
    rw [l_run_s] at h
    obtain ⟨h1, h2, h3, h4, h5, h6⟩ := hi
    have h : l_run f (nb_of (b + 1)) cur nxt d M c = true := h
    have h1 : Q = q_at s (k + 1) := h1
    obtain ⟨e0, l0, g1, g2, g3⟩ := List.map_eq_cons_iff.mp (show (Q.drop (k + 1)).map l_pr = (b + 1, d) :: (cur.map (fun b => (b, d)) ++ nxt.reverse.map (fun b => (b, d + 1))) from h5)
    have g4 : Q[k + 1]? = some e0 := by
      have h9 : (Q.drop (k + 1))[0]? = Q[k + 1 + 0]? := List.getElem?_drop
      rw [g1] at h9
      exact h9.symm
    have g5 : Q.drop (k + 2) = l0 := by
      rw [← List.tail_drop, g1]
      rfl
    have e1 : e0.1 = b + 1 := congrArg Prod.fst g2
    have e2 : e0.2.2 = d := congrArg Prod.snd g2
    refine l_run_ok f (k + 1) Q (nb_of (b + 1)) cur nxt d M c ⟨?_, h2, h3, q_lt g4, by rw [g5]; exact g3, fun t e ht he => ?_⟩ h
    · have h9 : q_at s (k + 1 + 1) = q_exp (q_at s (k + 1)) (k + 1) := rfl
      rw [h9, ← h1, q_exp_some g4, e1, e2]
    · rcases (show t ≤ k ∨ t = k + 1 by omega) with q | rfl
      · exact h6 t e q he
      · rw [g4] at he
        cases he
        omega
noncomputable def w_one (x y V : Nat) : Bool := bif (Nat.beq (V % (x * y)) 0 && Nat.ble (V / (x * y)) 24) then (match bx_mk x y (V / (x * y)) with
  | 0 => false
  | b + 1 => l_run 6000 (nb_of (b + 1)) [] [] 0 (2 ^ ((b + 1) / 32)) 1) else true
noncomputable def w_ys (x V : Nat) (n : Nat) : Bool := Nat.rec true (fun y ih => w_one x (y + 1) V && ih) n
noncomputable def w_xs (V : Nat) (n : Nat) : Bool := Nat.rec true (fun x ih => w_ys (x + 1) V 24 && ih) n
noncomputable def w_vs (lo : Nat) (n : Nat) : Bool := Nat.rec true (fun n ih => w_xs (lo + n) 24 && ih) n
theorem w_ys_at {x V : Nat} : ∀ {n : Nat}, w_ys x V n = true → ∀ y, 1 ≤ y → y ≤ n → w_one x y V = true
  | 0, _, y, h1, h2 => absurd h1 (by omega)
  | n + 1, h, y, h1, h2 => by
    have h : (w_one x (n + 1) V && w_ys x V n) = true := h
    rw [Bool.and_eq_true] at h
    rcases (show y = n + 1 ∨ y ≤ n by omega) with rfl | q
    · exact h.1
    · exact w_ys_at h.2 y h1 q
theorem w_xs_at {V : Nat} : ∀ {n : Nat}, w_xs V n = true → ∀ x y, 1 ≤ x → x ≤ n → 1 ≤ y → y ≤ 24 → w_one x y V = true
  | 0, _, x, y, h1, h2, _, _ => absurd h1 (by omega)
  | n + 1, h, x, y, h1, h2, h3, h4 => by
    have h : (w_ys (n + 1) V 24 && w_xs V n) = true := h
    rw [Bool.and_eq_true] at h
    rcases (show x = n + 1 ∨ x ≤ n by omega) with rfl | q
    · exact w_ys_at h.1 y h3 h4
    · exact w_xs_at h.2 x y h1 q h3 h4
theorem w_vs_at {lo : Nat} : ∀ {n : Nat}, w_vs lo n = true → ∀ V x y, lo ≤ V → V < lo + n → 1 ≤ x → x ≤ 24 → 1 ≤ y → y ≤ 24 → w_one x y V = true
  | 0, _, V, x, y, h1, h2, _, _, _, _ => absurd h1 (by omega)
  | n + 1, h, V, x, y, h1, h2, h3, h4, h5, h6 => by
    have h : (w_xs (lo + n) 24 && w_vs lo n) = true := h
    rw [Bool.and_eq_true] at h
    rcases (show V = lo + n ∨ V < lo + n by omega) with rfl | q
    · exact w_xs_at h.1 x y h3 h4 h5 h6
    · exact w_vs_at h.2 V x y h1 q h3 h4 h5 h6
theorem q_fin_of2 {x y z : Nat} (hx : 1 ≤ x ∧ x ≤ 24) (hy : 1 ≤ y ∧ y ≤ 24) (hz : 1 ≤ z ∧ z ≤ 24) (h : w_one x y (x * y * z) = true) : (q_at (bx_mk x y z) 97).length ≤ 96 ∧ ∀ (t : Nat) (e : qE), (q_at (bx_mk x y z) 97)[t]? = some e → e.2.2 ≤ 60 := by
  have hp : 0 < x * y := Nat.mul_pos hx.1 hy.1
  unfold w_one at h
  rw [Nat.mul_mod_right, Nat.mul_div_cancel_left z hp] at h
  have h1 : (Nat.beq 0 0 && Nat.ble z 24) = true := by
    rw [Bool.and_eq_true, Nat.beq_eq, Nat.ble_eq]
    exact ⟨rfl, hz.2⟩
  rw [h1] at h
  obtain ⟨s, hs⟩ : ∃ s, bx_mk x y z = s := ⟨_, rfl⟩
  rw [hs] at h ⊢
  have key : ∃ K, K ≤ 96 ∧ (q_at s K).length ≤ K ∧ ∀ (t : Nat) (e : qE), (q_at s K)[t]? = some e → e.2.2 ≤ 60 := by
    match s, h with
    | b + 1, h =>
      have h : l_run 6000 (nb_of (b + 1)) [] [] 0 (2 ^ ((b + 1) / 32)) 1 = true := h
      refine l_run_ok 6000 0 [(b + 1, 0, 0)] (nb_of (b + 1)) [] [] 0 _ 1 ⟨rfl, fun c => ?_, rfl, Nat.le_refl 1, rfl, fun t e ht he => ?_⟩ h
      · rw [Nat.testBit_two_pow]
        show decide ((b + 1) / 32 = c) = (Nat.beq ((b + 1) / 32) c || false)
        rw [Bool.or_false, Bool.eq_iff_iff, decide_eq_true_eq, Nat.beq_eq]
      · have h0 : t = 0 := by omega
        subst h0
        have he : ((b + 1, 0, 0) : qE) = e := Option.some.inj he
        rw [← he]
        exact Nat.le_refl 0
  obtain ⟨K, k1, k2, k3⟩ := key
  have h2 := q_at_stay (q_none.mpr k2) (97 - K)
  rw [show K + (97 - K) = 97 by omega] at h2
  rw [h2]
  exact ⟨Nat.le_trans k2 k1, k3⟩
