
theorem nk_G {p : Program} {l : Launch} {e : Env} {R : Room} {s : State} {m : MethodId} {args : Array Value} {below : List Frame} {meth : Method} {c : Code} {H : Heap} {locs : List Loc} {cells slots : Nat} {Q : State → Prop} {g : JFrame} (h : ∀ G : Heap → List Loc → JFrame → Prop, (∀ H' locs' g', W p l e R s m args below meth c H' locs' cells slots Q g' → G H' locs' g') → (∀ H' locs' g', G H' locs' g' → W p l e R s m args below meth c H' locs' cells slots Q g') → G H locs g) : W p l e R s m args below meth c H locs cells slots Q g := h (fun H' locs' g' => W p l e R s m args below meth c H' locs' cells slots Q g') (fun _ _ _ h => h) (fun _ _ _ h => h)
theorem nk_fill {g : Nat → Int32} {i : Nat} {v : Int32} (h : ∀ j, j < i → g j = v) : ∀ j, j < i + 1 → upd g i v j = v := fun j hj => by
  unfold upd
  split
  · rfl
  · exact h j (by omega)
theorem nk_nm1 {n : Nat} (h : n < 2 ^ 31) : ¬ nI n = -1 := fun q => by
  have a := congrArg Int32.toInt q
  rw [nI_toInt h, nk_m1] at a
  omega
theorem nk_side {x : Int32} (h : 1 ≤ x.toInt ∧ x.toInt ≤ 24) : ∃ a : Nat, (1 ≤ a ∧ a ≤ 24) ∧ x = nI a := by
  have h0 : ¬ x < 0 := fun q => by
    have := (nk_lt x 0).mp q
    rw [nk_c0] at this
    omega
  obtain ⟨j, hj, rfl⟩ := nI_of h0
  rw [nI_toInt hj] at h
  exact ⟨j, by omega, rfl⟩
/-- the class's rows, beside the row of boxes met -/
def RC (Q : List qE) (fa fq : Nat → Int32) : Prop := (∀ (t : Nat) (e : qE), Q[t]? = some e → fq t = nI (bx_cd e.1) ∧ ∃ e' : qE, Q[e.2.1]? = some e' ∧ fa (bx_cd e.1) = nI (bx_cd e'.1)) ∧ (∀ c, c < 576 → (∀ (t : Nat) (e : qE), Q[t]? = some e → bx_cd e.1 ≠ c) → fa c = -1)
theorem RC_0 {s : Nat} {f g : Nat → Int32} (h : ∀ j, j < 576 → f j = -1) : RC [(s, 0, 0)] (upd f (bx_cd s) (nI (bx_cd s))) (upd g 0 (nI (bx_cd s))) := by
  refine ⟨fun t e ht => ?_, fun c hc hn => ?_⟩
  · have hl := q_lt ht
    have h1 : ([(s, 0, 0)] : List qE).length = 1 := rfl
    have h0 : t = 0 := by omega
    subst h0
    have he : e = (s, 0, 0) := (Option.some.inj ht).symm
    subst he
    exact ⟨pk_us, (s, 0, 0), rfl, pk_us⟩
  · have h0 : bx_cd s ≠ c := hn 0 (s, 0, 0) rfl
    rw [pk_un (fun q => h0 q.symm)]
    exact h c hc
theorem RC_add {V : Nat} {Q : List qE} {fa fq : Nat → Int32} (hR : RC Q fa fq) (hI : q_in V Q) {k d b : Nat} {e0 : qE} (hk : Q[k]? = some e0) (hb : bx_in V b) (hn : q_has Q b = false) : RC (Q ++ [(b, k, d)]) (upd fa (bx_cd b) (nI (bx_cd e0.1))) (upd fq Q.length (nI (bx_cd b))) := by
  have hne : ∀ (t : Nat) (e : qE), Q[t]? = some e → bx_cd e.1 ≠ bx_cd b := fun t e ht q => by
    have := q_has_iff.mpr ⟨t, e, ht, (bx_cd_eq (hI t e ht) hb).mp q⟩
    rw [hn] at this
    exact Bool.false_ne_true this
  refine ⟨fun t e ht => ?_, fun c hc hh => ?_⟩
  · rcases q_app ht with q | ⟨rfl, rfl⟩
    · obtain ⟨a, e', he', h2⟩ := hR.1 t e q
      have := q_lt q
      refine ⟨by rw [pk_un (by omega)]; exact a, e', q_app_old he', ?_⟩
      rw [pk_un (hne t e q)]
      exact h2
    · exact ⟨pk_us, e0, q_app_old hk, pk_us⟩
  · have h1 : bx_cd b ≠ c := hh Q.length (b, k, d) List.getElem?_concat_length
    rw [pk_un (fun q => h1 q.symm)]
    exact hR.2 c hc (fun t e ht => hh t e (q_app_old ht))
theorem RC_no {V : Nat} {Q : List qE} {fa fq : Nat → Int32} (hR : RC Q fa fq) (hI : q_in V Q) {b : Nat} (hb : bx_in V b) (h : fa (bx_cd b) = -1) : q_has Q b = false := by
  cases hh : q_has Q b with
  | false => rfl
  | true =>
    obtain ⟨t, e, ht, he⟩ := q_has_iff.mp hh
    obtain ⟨-, e', he', h2⟩ := hR.1 t e ht
    rw [(bx_cd_eq (hI t e ht) hb).mpr he, h] at h2
    exact absurd h2.symm (nk_nm1 (Nat.lt_trans (bx_cd_lt (hI _ e' he')) (by decide)))
theorem RC_yes {V : Nat} {Q : List qE} {fa fq : Nat → Int32} (hR : RC Q fa fq) (hI : q_in V Q) {b : Nat} (hb : bx_in V b) (h : ¬ fa (bx_cd b) = -1) : q_has Q b = true := by
  cases hh : q_has Q b with
  | true => rfl
  | false =>
    refine absurd (hR.2 (bx_cd b) (bx_cd_lt hb) (fun t e ht q => ?_)) h
    have := q_has_iff.mpr ⟨t, e, ht, (bx_cd_eq (hI t e ht) hb).mp q⟩
    rw [hh] at this
    exact Bool.false_ne_true this
theorem nb_yes {x y z i j f n : Nat} (h : sd x y z i % n = 0 ∧ sd x y z j % (n - 1) = 0 ∧ sd x y z j / (n - 1) * n ≤ 24) : nb_n x y z i j (f + 1) n = st_go x y z i j n :: nb_n x y z i j f (n + 1) := by
  show (bif st_ok (sd x y z i) (sd x y z j) n then st_go x y z i j n :: nb_n x y z i j f (n + 1) else nb_n x y z i j f (n + 1)) = _
  rw [st_ok_iff.mpr h]
  rfl
theorem nb_no {x y z i j f n : Nat} (h : ¬ (sd x y z i % n = 0 ∧ sd x y z j % (n - 1) = 0 ∧ sd x y z j / (n - 1) * n ≤ 24)) : nb_n x y z i j (f + 1) n = nb_n x y z i j f (n + 1) := by
  show (bif st_ok (sd x y z i) (sd x y z j) n then st_go x y z i j n :: nb_n x y z i j f (n + 1) else nb_n x y z i j f (n + 1)) = _
  cases hk : st_ok (sd x y z i) (sd x y z j) n with
  | true => exact absurd (st_ok_iff.mp hk) h
  | false => rfl
/-- the reference's rows, beside the row of boxes met -/
def RR (Q : List qE) (fb fc : Nat → Int32) : Prop := ∀ (t : Nat) (e : qE), Q[t]? = some e → fb (3 * t) = nI (e.1 / 1024) ∧ fb (3 * t + 1) = nI (e.1 / 32 % 32) ∧ fb (3 * t + 2) = nI (e.1 % 32) ∧ fc t = if t = 0 then -1 else nI e.2.1
theorem RR_add {Q : List qE} {fb fc : Nat → Int32} (hR : RR Q fb fc) {x y z k d : Nat} (hy : y < 32) (hz : z < 32) {v : Int32} (hv : v = if Q.length = 0 then -1 else nI k) : RR (Q ++ [(bx_mk x y z, k, d)]) (upd (upd (upd fb (3 * Q.length) (nI x)) (3 * Q.length + 1) (nI y)) (3 * Q.length + 2) (nI z)) (upd fc Q.length v) := by
  intro t e ht
  rcases q_app ht with q | ⟨rfl, rfl⟩
  · have hl := q_lt q
    obtain ⟨a, b, c, d⟩ := hR t e q
    refine ⟨?_, ?_, ?_, ?_⟩
    · rw [pk_un (by omega), pk_un (by omega), pk_un (by omega)]; exact a
    · rw [pk_un (by omega), pk_un (by omega), pk_un (by omega)]; exact b
    · rw [pk_un (by omega), pk_un (by omega), pk_un (by omega)]; exact c
    · rw [pk_un (by omega)]; exact d
  · refine ⟨?_, ?_, ?_, ?_⟩
    · rw [pk_un (by omega), pk_un (by omega), pk_us, bx_x hy hz]
    · rw [pk_un (by omega), pk_us, bx_y hy hz]
    · rw [pk_us, bx_z hz]
    · rw [pk_us]; exact hv
/-- what plan answers on a new object -/
def r_ans (s g : Nat) : Int32 := match (q_at s 97).find? (fun e => Nat.beq (e.1 / 32) (g / 32)) with
  | none => -1
  | some e => nI e.2.2
theorem r_some {V s g k t : Nat} {e : qE} (hs : bx_in V s) (hk : k ≤ 97) (ht : (q_at s k)[t]? = some e) (he : e.1 / 32 = g / 32) : r_ans s g = nI e.2.2 := by
  have h1 : (q_at s 97)[t]? = some e := by
    have h2 := q_pre_at (q_at_pre s k (97 - k)) ht
    rw [show k + (97 - k) = 97 by omega] at h2
    exact h2
  have hwf := (q_at_ok hs 97).2.2
  unfold r_ans
  generalize q_at s 97 = L at h1 hwf ⊢
  cases hf : L.find? (fun e => Nat.beq (e.1 / 32) (g / 32)) with
  | none =>
    have := List.find?_eq_none.mp hf e (List.mem_of_getElem? h1)
    exact absurd (by rw [Nat.beq_eq]; exact he) this
  | some e' =>
    obtain ⟨t', ht'⟩ := List.mem_iff_getElem?.mp (List.mem_of_find?_eq_some hf)
    have h2 := List.find?_some hf
    have h3 : e'.1 / 32 = g / 32 := Nat.eq_of_beq_eq_true h2
    have h4 := hwf t t' e e' h1 ht' (he.trans h3.symm)
    subst h4
    rw [h1] at ht'
    rw [Option.some.inj ht']
theorem r_none {s g k : Nat} (hk : k ≤ 97) (ht : (q_at s k)[k]? = none) (hn : ∀ (t : Nat) (e : qE), (q_at s k)[t]? = some e → ¬ e.1 / 32 = g / 32) : r_ans s g = -1 := by
  have h1 : q_at s 97 = q_at s k := by
    have h2 := q_at_stay ht (97 - k)
    rw [show k + (97 - k) = 97 by omega] at h2
    exact h2
  unfold r_ans
  rw [h1, List.find?_eq_none.mpr (fun e he q => by
    obtain ⟨t, ht⟩ := List.mem_iff_getElem?.mp he
    exact hn t e ht (Nat.eq_of_beq_eq_true q))]
/-- how long the row is, how deep -/
theorem q_len {s : Nat} (h : (q_at s 97).length ≤ 96) {k : Nat} (hk : k ≤ 97) : (q_at s k).length ≤ 96 := by
  have h2 := q_pre_len (q_at_pre s k (97 - k))
  rw [show k + (97 - k) = 97 by omega] at h2
  omega
def pl_s (x : Int32) : Prop := 1 ≤ x.toInt ∧ x.toInt ≤ 24
def pl_b (x y z : Int32) : Nat := bx_mk x.toNatClampNeg y.toNatClampNeg z.toNatClampNeg
def pl_v (x y z : Int32) : Nat := x.toNatClampNeg * y.toNatClampNeg * z.toNatClampNeg
/-- the answer of plan on a new object, said once for both -/
def pl_is (r a b c d e f : Int32) : Prop := (¬ ((1 ≤ a.toInt ∧ a.toInt ≤ 24) ∧ (1 ≤ b.toInt ∧ b.toInt ≤ 24) ∧ (1 ≤ c.toInt ∧ c.toInt ≤ 24)) → r = -2) ∧ (¬ ((1 ≤ d.toInt ∧ d.toInt ≤ 24) ∧ (1 ≤ e.toInt ∧ e.toInt ≤ 24) ∧ (1 ≤ f.toInt ∧ f.toInt ≤ 24)) → r = -2) ∧ ∀ u0 u1 u2 v0 v1 v2 : Nat, ((1 ≤ u0 ∧ u0 ≤ 24) ∧ (1 ≤ u1 ∧ u1 ≤ 24) ∧ (1 ≤ u2 ∧ u2 ≤ 24)) → ((1 ≤ v0 ∧ v0 ≤ 24) ∧ (1 ≤ v1 ∧ v1 ≤ 24) ∧ (1 ≤ v2 ∧ v2 ≤ 24)) → a = nI u0 → b = nI u1 → c = nI u2 → d = nI v0 → e = nI v1 → f = nI v2 → r = if 1728 < u0 * u1 * u2 then -2 else if u0 * u1 * u2 = v0 * v1 * v2 then r_ans (bx_mk u0 u1 u2) (bx_mk v0 v1 v2) else -3
theorem pl_one {r r' a b c d e f : Int32} (h : pl_is r a b c d e f) (h' : pl_is r' a b c d e f) : r = r' := by
  by_cases h1 : (1 ≤ a.toInt ∧ a.toInt ≤ 24) ∧ (1 ≤ b.toInt ∧ b.toInt ≤ 24) ∧ (1 ≤ c.toInt ∧ c.toInt ≤ 24)
  · by_cases h2 : (1 ≤ d.toInt ∧ d.toInt ≤ 24) ∧ (1 ≤ e.toInt ∧ e.toInt ≤ 24) ∧ (1 ≤ f.toInt ∧ f.toInt ≤ 24)
    · obtain ⟨u0, p0, e0⟩ := nk_side h1.1
      obtain ⟨u1, p1, e1⟩ := nk_side h1.2.1
      obtain ⟨u2, p2, e2⟩ := nk_side h1.2.2
      obtain ⟨v0, q0, k0⟩ := nk_side h2.1
      obtain ⟨v1, q1, k1⟩ := nk_side h2.2.1
      obtain ⟨v2, q2, k2⟩ := nk_side h2.2.2
      exact (h.2.2 u0 u1 u2 v0 v1 v2 ⟨p0, p1, p2⟩ ⟨q0, q1, q2⟩ e0 e1 e2 k0 k1 k2).trans (h'.2.2 u0 u1 u2 v0 v1 v2 ⟨p0, p1, p2⟩ ⟨q0, q1, q2⟩ e0 e1 e2 k0 k1 k2).symm
    · exact (h.2.1 h2).trans (h'.2.1 h2).symm
  · exact (h.1 h1).trans (h'.1 h1).symm
theorem nk_s {x : Int32} {u : Nat} (h : x = nI u) (hu : 1 ≤ u ∧ u ≤ 24) : 1 ≤ x.toInt ∧ x.toInt ≤ 24 := by
  rw [h, nI_toInt (by omega)]
  omega
theorem nk_n {u v : Nat} (h : nI u = nI v) (hu : 1 ≤ u ∧ u ≤ 24) (hv : 1 ≤ v ∧ v ≤ 24) : u = v := (nI_eq (by omega) (by omega)).mp h
theorem pl_bad1 {a b c d e f : Int32} (h : ¬ ((1 ≤ a.toInt ∧ a.toInt ≤ 24) ∧ (1 ≤ b.toInt ∧ b.toInt ≤ 24) ∧ (1 ≤ c.toInt ∧ c.toInt ≤ 24))) : pl_is (-2) a b c d e f := ⟨fun _ => rfl, fun _ => rfl, fun u0 u1 u2 v0 v1 v2 hu hv e0 e1 e2 _ _ _ => absurd ⟨nk_s e0 hu.1, nk_s e1 hu.2.1, nk_s e2 hu.2.2⟩ h⟩
theorem pl_bad2 {a b c d e f : Int32} (h : ¬ ((1 ≤ d.toInt ∧ d.toInt ≤ 24) ∧ (1 ≤ e.toInt ∧ e.toInt ≤ 24) ∧ (1 ≤ f.toInt ∧ f.toInt ≤ 24))) : pl_is (-2) a b c d e f := ⟨fun _ => rfl, fun _ => rfl, fun u0 u1 u2 v0 v1 v2 hu hv _ _ _ e0 e1 e2 => absurd ⟨nk_s e0 hv.1, nk_s e1 hv.2.1, nk_s e2 hv.2.2⟩ h⟩
theorem pl_good {u0 u1 u2 v0 v1 v2 : Nat} (hu : (1 ≤ u0 ∧ u0 ≤ 24) ∧ (1 ≤ u1 ∧ u1 ≤ 24) ∧ (1 ≤ u2 ∧ u2 ≤ 24)) (hv : (1 ≤ v0 ∧ v0 ≤ 24) ∧ (1 ≤ v1 ∧ v1 ≤ 24) ∧ (1 ≤ v2 ∧ v2 ≤ 24)) {r : Int32} (hr : r = if 1728 < u0 * u1 * u2 then -2 else if u0 * u1 * u2 = v0 * v1 * v2 then r_ans (bx_mk u0 u1 u2) (bx_mk v0 v1 v2) else -3) : pl_is r (nI u0) (nI u1) (nI u2) (nI v0) (nI v1) (nI v2) := by
  refine ⟨fun h => absurd ⟨nk_s rfl hu.1, nk_s rfl hu.2.1, nk_s rfl hu.2.2⟩ h, fun h => absurd ⟨nk_s rfl hv.1, nk_s rfl hv.2.1, nk_s rfl hv.2.2⟩ h, ?_⟩
  intro a0 a1 a2 b0 b1 b2 ha hb e0 e1 e2 k0 k1 k2
  have i0 := nk_n e0 hu.1 ha.1
  have i1 := nk_n e1 hu.2.1 ha.2.1
  have i2 := nk_n e2 hu.2.2 ha.2.2
  have j0 := nk_n k0 hv.1 hb.1
  have j1 := nk_n k1 hv.2.1 hb.2.1
  have j2 := nk_n k2 hv.2.2 hb.2.2
  subst i0 i1 i2 j0 j1 j2
  exact hr
theorem nb_of_mk {x y z : Nat} (hy : y < 32) (hz : z < 32) : nb_of (bx_mk x y z) = nb_n x y z 0 1 23 2 ++ (nb_n x y z 0 2 23 2 ++ (nb_n x y z 1 0 23 2 ++ (nb_n x y z 1 2 23 2 ++ (nb_n x y z 2 0 23 2 ++ (nb_n x y z 2 1 23 2 ++ []))))) := by
  unfold nb_of
  rw [bx_x hy hz, bx_y hy hz, bx_z hz]
  rfl
theorem q_next {s k x y z pk d : Nat} (hy : y < 32) (hz : z < 32) (hk : (q_at s k)[k]? = some (bx_mk x y z, pk, d)) : q_at s (k + 1) = q_sees k (d + 1) (nb_n x y z 2 1 23 2) (q_sees k (d + 1) (nb_n x y z 2 0 23 2) (q_sees k (d + 1) (nb_n x y z 1 2 23 2) (q_sees k (d + 1) (nb_n x y z 1 0 23 2) (q_sees k (d + 1) (nb_n x y z 0 2 23 2) (q_sees k (d + 1) (nb_n x y z 0 1 23 2) (q_at s k)))))) := by
  show q_exp (q_at s k) k = _
  rw [q_exp_some hk, nb_of_mk hy hz, q_sees_app, q_sees_app, q_sees_app, q_sees_app, q_sees_app, q_sees_app]
  rfl
theorem RC_chain {V s g t : Nat} {Q : List qE} {fa fq : Nat → Int32} {e : qE} (hR : RC Q fa fq) (hw : q_wf Q) (hI : q_in V Q) (hs : bx_in V s) (hg : bx_in V g) (h0 : Q[0]? = some (s, 0, 0)) (ht : Q[t]? = some e) (he : e.1 / 32 = g / 32) : ∃ h : Nat → Nat, h 0 = bx_cd g ∧ h e.2.2 = bx_cd s ∧ e.2.2 ≤ t ∧ ∀ i, i < e.2.2 → h i < 576 ∧ h i ≠ h e.2.2 ∧ fa (h i) = nI (h (i + 1)) := by
  obtain ⟨h, a0, a1, a2, a3⟩ := q_chain hw e.2.2 t e ht rfl
  have hd : bx_cd ((Q[h e.2.2]?.getD (0, 0, 0)).1) = bx_cd s := by
    rw [a1, h0]
    rfl
  refine ⟨fun i => bx_cd ((Q[h i]?.getD (0, 0, 0)).1), ?_, hd, a2, fun i hi => ?_⟩
  · show bx_cd ((Q[h 0]?.getD (0, 0, 0)).1) = bx_cd g
    rw [a0, ht]
    exact (bx_cd_eq (hI t e ht) hg).mpr he
  · obtain ⟨b1, b2, ei, b3, b4⟩ := a3 i hi
    obtain ⟨-, e', c1, c2⟩ := hR.1 (h i) ei b3
    have g1 : bx_cd ((Q[h i]?.getD (0, 0, 0)).1) = bx_cd ei.1 := by rw [b3]; rfl
    have g2 : bx_cd ((Q[h (i + 1)]?.getD (0, 0, 0)).1) = bx_cd e'.1 := by rw [← b4, c1]; rfl
    show bx_cd ((Q[h i]?.getD (0, 0, 0)).1) < 576 ∧ bx_cd ((Q[h i]?.getD (0, 0, 0)).1) ≠ bx_cd ((Q[h e.2.2]?.getD (0, 0, 0)).1) ∧ fa (bx_cd ((Q[h i]?.getD (0, 0, 0)).1)) = nI (bx_cd ((Q[h (i + 1)]?.getD (0, 0, 0)).1))
    rw [hd, g1, g2]
    refine ⟨bx_cd_lt (hI _ ei b3), fun q => ?_, c2⟩
    have := hw.2 (h i) 0 ei (s, 0, 0) b3 h0 ((bx_cd_eq (hI _ ei b3) hs).mp q)
    omega
theorem bx_ne {V x y z x' y' z' : Nat} (h : bx_in V (bx_mk x y z)) (h' : bx_in V (bx_mk x' y' z')) (hb : y < 32 ∧ z < 32 ∧ y' < 32 ∧ z' < 32) (q : bx_mk x y z / 32 = bx_mk x' y' z' / 32) : x = x' ∧ y = y' ∧ z = z' := by
  have e := bx_same h h' q
  unfold bx_mk at e
  omega
theorem q_at_see (b : Nat) : q_see [] 0 0 b = q_at b 0 := rfl
theorem bx_mk_inj {x y z x' y' z' : Nat} (h : bx_mk x y z = bx_mk x' y' z') (hb : y < 32 ∧ z < 32 ∧ y' < 32 ∧ z' < 32) : x = x' ∧ y = y' ∧ z = z' := by
  unfold bx_mk at h
  omega
theorem nk_len {P : List qE} {e : qE} : P.length + 1 = (P ++ [e]).length := by
  rw [List.length_append]
  rfl
