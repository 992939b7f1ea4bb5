/-! the two sides, side by side -/
/-- a burrow as it may be, on both sides -/
def BIn (A S : St) (nP nL : Nat) (o t c u : Nat → Nat) : Prop :=
  A 12 1 = nI nP ∧ nP ≤ 5 ∧ A 12 0 = nI nL ∧ nL ≤ 7 ∧ Lks A nL o t c ∧ (∀ g, g < nL → 1 ≤ c g) ∧ (∀ g, g < nL → (∃ z, z ≤ 9 ∧ A 4 g = nI z) ∧ ∃ z, z ≤ 2 ∧ A 6 g = nI z) ∧ Vd A nP ∧ (∀ j, j < 6 → (∃ a, a ≤ 999 ∧ A 0 j = nI a) ∧ (∃ b, b ≤ 9 ∧ A 1 j = nI b)) ∧ (∀ f, 1 ≤ f → f < 6 → A 11 f = nI (u f)) ∧ (∀ f, u f ≤ 5) ∧ A 11 6 = 0 ∧ Eq9 nL A S
def BI (A S : St) : Prop := ∃ nP nL o t c u, BIn A S nP nL o t c u
def TI (T S : St) (nT : Nat) : Prop := T 1 0 = nI nT ∧ nT ≤ 96 ∧ S 12 4 = nI nT ∧ (∀ j, j < nT → S 13 j = T 0 j) ∧ ∀ j, j < nT → ∃ b, b < 256 ∧ S 13 j = nI b
def RI (U S : St) (nR : Nat) : Prop := U 0 1 = nI nR ∧ nR ≤ 12 ∧ S 12 6 = nI nR ∧ S 15 = U 1
def Rel (Sn Sk T U S : St) : Prop := BI Sn S ∧ (∃ nT, TI T S nT) ∧ (∃ nR, RI U S nR) ∧ S 16 = U 2 ∧ S 12 7 = U 0 0 ∧ (¬ U 0 0 = 0 → ∃ V, S 17 = pk V ∧ BI Sk V)
def RelM (Sn Sk T U S' : St) : Prop := ∃ S, (∀ k, k ≤ 21 → ∀ j, j < lenM k → S' k j = S k j) ∧ Rel Sn Sk T U S
theorem RelM.of {Sn Sk T U S : St} (h : Rel Sn Sk T U S) : RelM Sn Sk T U S := ⟨S, fun _ _ _ _ => rfl, h⟩
def RelX (r : XR) (m : Int32 × St) : Prop := m.1 = r.1 ∧ Rel r.2.1 r.2.2.1 r.2.2.2.1 r.2.2.2.2 m.2
theorem Lks.eq9 {A S : St} {nL : Nat} {o t c : Nat → Nat} (h : Lks A nL o t c) (hE : Eq9 nL A S) : Lks S nL o t c := fun g hg => by
  rw [hE.2.1 2 (by omega) (by omega) g hg, hE.2.1 3 (by omega) (by omega) g hg, hE.2.1 5 (by omega) (by omega) g hg]
  exact h g hg
theorem Vd.eq9 {A S : St} {nP nL : Nat} (h : Vd A nP) (hE : Eq9 nL A S) : Vd S nP := h.cong (hE.1 7 (by omega)) (hE.1 8 (by omega)) (hE.1 10 (by omega))
theorem TI.cong {T S S' : St} {nT : Nat} (h : TI T S nT) (h4 : S' 12 4 = S 12 4) (h13 : S' 13 = S 13) : TI T S' nT := by
  obtain ⟨a, b, c, d, e⟩ := h
  exact ⟨a, b, h4.trans c, fun j hj => by rw [h13]; exact d j hj, fun j hj => by rw [h13]; exact e j hj⟩
theorem RI.cong {U S S' : St} {nR : Nat} (h : RI U S nR) (h6 : S' 12 6 = S 12 6) (h15 : S' 15 = S 15) : RI U S' nR := by
  obtain ⟨a, b, c, d⟩ := h
  exact ⟨a, b, h6.trans c, h15.trans d⟩
/-- what of the Model's state the burrow isn't -/
def Rest (S S' : St) : Prop := (∀ k, 13 ≤ k → k ≠ 14 → k ≠ 18 → k ≠ 19 → k ≠ 20 → k ≠ 21 → S' k = S k) ∧ ∀ j, 4 ≤ j → j ≠ 5 → S' 12 j = S 12 j
theorem Rest.rf {S : St} : Rest S S := ⟨fun _ _ _ _ _ _ _ => rfl, fun _ _ _ => rfl⟩
theorem Rel.bur {Sn Sk T U S A S' : St} (h : Rel Sn Sk T U S) (hB : BI A S') (hr : Rest S S') : Rel A Sk T U S' := by
  obtain ⟨h1, ⟨nT, h2⟩, ⟨nR, h3⟩, h4, h5, h6⟩ := h
  refine ⟨hB, ⟨nT, h2.cong (hr.2 4 (by omega) (by omega)) (hr.1 13 (by omega) (by omega) (by omega) (by omega) (by omega) (by omega))⟩, ⟨nR, h3.cong (hr.2 6 (by omega) (by omega)) (hr.1 15 (by omega) (by omega) (by omega) (by omega) (by omega) (by omega))⟩, ?_, ?_, ?_⟩
  · rw [hr.1 16 (by omega) (by omega) (by omega) (by omega) (by omega) (by omega)]
    exact h4
  · rw [hr.2 7 (by omega) (by omega)]
    exact h5
  · rw [hr.1 17 (by omega) (by omega) (by omega) (by omega) (by omega) (by omega)]
    exact h6
theorem Scr.rest {nL : Nat} {S S' : St} (h : Scr nL S S') : Rest S S' := ⟨fun k h13 h14 h18 h19 h20 h21 => funext fun j => h k h14 h18 h19 h20 h21 j (by omega) (by omega), fun j h4 h5 => h 12 (by omega) (by omega) (by omega) (by omega) (by omega) j (by omega) (by omega)⟩
theorem Scr.eq9 {nL : Nat} {A S S' : St} (h : Scr nL S S') (hE : Eq9 nL A S) : Eq9 nL A S' := ⟨fun k hk => (funext fun j => h k (by omega) (by omega) (by omega) (by omega) (by omega) j (by omega) (by omega)).trans (hE.1 k hk), fun k k1 k2 g hg => (h k (by omega) (by omega) (by omega) (by omega) (by omega) g (by omega) (by omega)).trans (hE.2.1 k k1 k2 g hg), fun j hj => (h 12 (by omega) (by omega) (by omega) (by omega) (by omega) j (by omega) (by omega)).trans (hE.2.2 j hj)⟩
theorem BIn.eqS {A S S' : St} {nP nL : Nat} {o t c u : Nat → Nat} (h : BIn A S nP nL o t c u) (hE : Eq9 nL A S') : BIn A S' nP nL o t c u := by
  obtain ⟨a1, a2, a3, a4, a5, a6, a7, a8, a9, b1, b2, b3, b4⟩ := h
  exact ⟨a1, a2, a3, a4, a5, a6, a7, a8, a9, b1, b2, b3, hE⟩
theorem BIn.E {A S : St} {nP nL : Nat} {o t c u : Nat → Nat} (h : BIn A S nP nL o t c u) : Eq9 nL A S := h.2.2.2.2.2.2.2.2.2.2.2.2
theorem Eq9.hi {A S S' : St} {nL : Nat} (h : Eq9 nL A S) (he : ∀ k, k ≤ 12 → S' k = S k) : Eq9 nL A S' := ⟨fun k hk => (he k (by omega)).trans (h.1 k hk), fun k k1 k2 g hg => by rw [he k (by omega)]; exact h.2.1 k k1 k2 g hg, fun j hj => by rw [he 12 (by omega)]; exact h.2.2 j hj⟩
theorem Rel.scr {Sn Sk T U S S' : St} {nL : Nat} (h : Rel Sn Sk T U S) (hL : Sn 12 0 = nI nL) (hL8 : nL ≤ 8) (hs : Scr nL S S') : Rel Sn Sk T U S' := by
  obtain ⟨nP, n2, o, t, c, u, hB⟩ := h.1
  have e : n2 = nL := (nI_eq (by have := hB.2.2.2.1; omega) (by omega)).mp (hB.2.2.1.symm.trans hL)
  subst e
  exact h.bur ⟨nP, n2, o, t, c, u, hB.eqS (hs.eq9 hB.E)⟩ hs.rest
theorem Rel.refu {Sn Sk T U S : St} (h : Rel Sn Sk T U S) (k : Nat) : Rel Sn Sk T (rfU U k) (nob S k) := by
  obtain ⟨⟨nP, nL, o, t, c, u, hB⟩, ⟨nT, h2⟩, ⟨nR, h3⟩, h4, h5, h6⟩ := h
  have hE := hB.E
  have hlo : ∀ a, a ≤ 15 → nob S k a = S a := fun a ha => sw_ne _ _ _ (by omega)
  refine ⟨⟨nP, nL, o, t, c, u, hB.eqS (hE.hi (fun a ha => hlo a (by omega)))⟩, ⟨nT, h2.cong (by rw [hlo 12 (by omega)]) (hlo 13 (by omega))⟩, ⟨nR, ?_⟩, ?_, ?_, fun hne => ?_⟩
  · obtain ⟨a, b, c2, d⟩ := h3
    refine ⟨?_, b, by rw [hlo 12 (by omega)]; exact c2, ?_⟩
    · show sw U 2 k (U 2 k + 1) 0 1 = nI nR
      rw [sw_ne _ _ _ (by decide)]
      exact a
    · show nob S k 15 = sw U 2 k (U 2 k + 1) 1
      rw [hlo 15 (by omega), sw_ne _ _ _ (by decide)]
      exact d
  · show sw S 16 k (S 16 k + 1) 16 = sw U 2 k (U 2 k + 1) 2
    rw [sw_eq, sw_eq, h4]
  · show nob S k 12 7 = sw U 2 k (U 2 k + 1) 0 0
    rw [hlo 12 (by omega), sw_ne _ _ _ (by decide)]
    exact h5
  · have e17 : nob S k 17 = S 17 := sw_ne _ _ _ (by decide)
    rw [e17]
    refine h6 (fun q => hne ?_)
    show sw U 2 k (U 2 k + 1) 0 0 = 0
    rw [sw_ne _ _ _ (by decide)]
    exact q
/-! a burrow's changes -/
theorem breath_nat {A : St} {nP : Nat} (hP5 : nP ≤ 5) (hV : Vd A nP) (r : Int32) : ∃ k, k ≤ 20 ∧ breathInS A nP r = nI k := by
  have key : ∀ a n, n ≤ nP → ∃ k, k ≤ 4 * n ∧ bsum A r a n = nI k := by
    intro a n
    induction n with
    | zero => exact fun _ => ⟨0, Nat.le_refl _, rfl⟩
    | succ n ih =>
      intro hn
      obtain ⟨k, hk, e⟩ := ih (by omega)
      rw [bsum]
      split
      · obtain ⟨z, hz, ez⟩ := (hV n (by omega)).1
        have hb : ∃ b, b ≤ 4 ∧ bk (nI z) a = nI b := by
          rcases (show z = 0 ∨ z = 1 ∨ z = 2 ∨ z = 3 ∨ z = 4 ∨ z = 5 by omega) with rfl | rfl | rfl | rfl | rfl | rfl
          · exact ⟨2, by omega, rfl⟩
          · exact ⟨1, by omega, rfl⟩
          · exact ⟨4, by omega, rfl⟩
          · exact ⟨3, by omega, rfl⟩
          · exact ⟨0, by omega, rfl⟩
          · by_cases ha : a = 0
            · exact ⟨1, by omega, by rw [ha]; rfl⟩
            · refine ⟨0, by omega, ?_⟩
              have e5 : bk (nI 5) a = if a = 0 then 1 else 0 := rfl
              rw [e5, if_neg ha]
              rfl
        obtain ⟨b, hb4, eb⟩ := hb
        exact ⟨k + b, by omega, by rw [e, ez, eb, nI_add]⟩
      · exact ⟨k, by omega, e⟩
  obtain ⟨k, hk, e⟩ := key (al (cnt (A 8) r nP)) nP (Nat.le_refl _)
  exact ⟨k, by omega, e⟩
theorem sub3 {a b g : Nat} (ha : a ≤ 999) (hb : b ≤ 9) (hg : g ≤ 20) : mx 0 (nI a - nI b - nI g) = nI (a - b - g) := by
  have e1 : (nI a - nI b - nI g) = nI a - nI (b + g) := by
    rw [← nI_add, Int32.sub_eq_add_neg, Int32.sub_eq_add_neg, Int32.sub_eq_add_neg, Int32.neg_add, Int32.sub_eq_add_neg, Int32.add_assoc]
  rw [e1, mx_0 (by omega) (by omega), show a - (b + g) = a - b - g by omega]
/-- air and leaks in their bounds -/
def Va (A : St) : Prop := ∀ j, j < 6 → (∃ a, a ≤ 999 ∧ A 0 j = nI a) ∧ ∃ b, b ≤ 9 ∧ A 1 j = nI b
theorem live_0 {A : St} {nP j : Nat} (hj : j < 6) : liveS nP A 0 j = mx 0 (A 0 j - A 1 j - breathInS A nP (nI j)) := by
  have e0 : liveS nP A 0 = lmA nP A 6 0 := by
    unfold liveS
    rw [sw_ne _ _ _ (by decide), sw_ne _ _ _ (by decide), lmB_row _ (by decide)]
  rw [e0]
  have key : ∀ n, n ≤ 6 → lmA nP A n 0 j = if j < n then mx 0 (A 0 j - A 1 j - breathInS A nP (nI j)) else A 0 j := by
    intro n
    induction n with
    | zero => exact fun _ => (if_neg (by omega)).symm
    | succ n ih =>
      intro hn
      have i1 := ih (by omega)
      rw [lmA, swv]
      by_cases e : j = n
      · rw [if_pos ⟨rfl, e⟩, if_pos (by omega)]
        subst e
        unfold leftS
        rw [i1, if_neg (by omega), lmA_row nP A (k := 1) (by decide), bin_cong (lmA_row nP A (k := 7) (by decide) j) (lmA_row nP A (k := 8) (by decide) j)]
      · rw [if_neg (fun q => e q.2), i1]
        by_cases e2 : j < n
        · rw [if_pos e2, if_pos (by omega)]
        · rw [if_neg e2, if_neg (by omega)]
  rw [key 6 (Nat.le_refl _), if_pos hj]
theorem liveN_1 (nP : Nat) (A : St) (n : Nat) : liveN nP A n 1 = A 1 := liveN_row nP A (by decide) (by decide) (by decide) n
theorem liveN_br (nP : Nat) (A : St) (n : Nat) (r : Int32) : breathInS (liveN nP A n) nP r = breathInS A nP r := bin_cong (liveN_row nP A (by decide) (by decide) (by decide) n) (liveN_row nP A (by decide) (by decide) (by decide) n) r
/-- the air behind so many minutes -/
theorem air_n {A : St} {nP j a b g : Nat} (hj : j < 6) (ha : A 0 j = nI a) (ha9 : a ≤ 999) (hb : A 1 j = nI b) (hb9 : b ≤ 9) (hg : breathInS A nP (nI j) = nI g) (hg20 : g ≤ 20) : ∀ n, liveN nP A n 0 j = nI (a - n * (b + g))
  | 0 => by rw [Nat.zero_mul, Nat.sub_zero]; exact ha
  | n + 1 => by
    rw [liveN, live_0 hj, air_n hj ha ha9 hb hb9 hg hg20 n, liveN_1, hb, liveN_br, hg, sub3 (by omega) hb9 hg20, Nat.succ_mul, show a - n * (b + g) - b - g = a - (n * (b + g) + (b + g)) by omega]
theorem Va.live {A : St} {nP : Nat} (hP5 : nP ≤ 5) (hV : Vd A nP) (h : Va A) (n : Nat) : Va (liveN nP A n) := fun j hj => by
  obtain ⟨⟨a, ha, e1⟩, b, hb, e2⟩ := h j hj
  obtain ⟨g, hg, e3⟩ := breath_nat hP5 hV (nI j)
  exact ⟨⟨a - n * (b + g), by omega, air_n hj e1 ha e2 hb e3 hg n⟩, b, hb, by rw [liveN_1]; exact e2⟩
theorem BIn.live {A S : St} {nP nL : Nat} {o t c u : Nat → Nat} (h : BIn A S nP nL o t c u) (n : Nat) : BIn (liveN nP A n) (liveN nP S n) nP nL o t c u := by
  obtain ⟨a1, a2, a3, a4, a5, a6, a7, a8, a9, b1, b2, b3, b4⟩ := h
  refine ⟨by rw [(liveN_12 nP A n).1]; exact a1, a2, by rw [(liveN_12 nP A n).2]; exact a3, a4, a5.cong (liveN_row nP A (by decide) (by decide) (by decide) n) (liveN_row nP A (by decide) (by decide) (by decide) n) (liveN_row nP A (by decide) (by decide) (by decide) n), a6, fun g hg => ?_, a8.live n, Va.live a2 a8 a9 n, fun f h1 h2 => ?_, b2, ?_, b4.live n⟩
  · rw [liveN_row nP A (k := 4) (by decide) (by decide) (by decide) n, liveN_row nP A (k := 6) (by decide) (by decide) (by decide) n]
    exact a7 g hg
  · rw [liveN_row nP A (k := 11) (by decide) (by decide) (by decide) n]
    exact b1 f h1 h2
  · rw [liveN_row nP A (k := 11) (by decide) (by decide) (by decide) n]
    exact b3
theorem BIn.stepB {A S : St} {nP nL p g : Nat} {o t c u : Nat → Nat} (h : BIn A S nP nL o t c u) (hg : g < nL) : BIn (goB A p g) (goB S p g) nP nL o t c u := by
  obtain ⟨a1, a2, a3, a4, a5, a6, a7, a8, a9, b1, b2, b3, b4⟩ := h
  have hr : ∀ k, k ≠ 8 → k ≠ 0 → goB A p g k = A k := fun k h8 h0 => goB_row A p g h8 h0
  refine ⟨by rw [hr 12 (by decide) (by decide)]; exact a1, a2, by rw [hr 12 (by decide) (by decide)]; exact a3, a4, a5.cong (hr 2 (by decide) (by decide)) (hr 3 (by decide) (by decide)) (hr 5 (by decide) (by decide)), a6, fun g2 hg2 => ?_, Vd.stepB a8 a5 p hg, fun j hj => ?_, fun f h1 h2 => ?_, b2, ?_, b4.stepB hg⟩
  · rw [hr 4 (by decide) (by decide), hr 6 (by decide) (by decide)]
    exact a7 g2 hg2
  · rw [hr 1 (by decide) (by decide)]
    refine ⟨?_, (a9 j hj).2⟩
    obtain ⟨⟨a, ha, e1⟩, -⟩ := a9 j hj
    have e0 : goA A p g 0 j = nI a := by
      rw [goA_row A p g (by decide)]
      exact e1
    unfold goB
    split
    · split
      · exact ⟨a, ha, e0⟩
      · rw [swv]
        split
        · next hh =>
          obtain ⟨⟨z, hz, ez⟩, -⟩ := a7 g hg
          rw [← hh.2, e1, ez, mx_0 (by omega) (by omega)]
          exact ⟨a - z, by omega, rfl⟩
        · exact ⟨a, ha, e0⟩
    · exact ⟨a, ha, e0⟩
  · rw [hr 11 (by decide) (by decide)]
    exact b1 f h1 h2
  · rw [hr 11 (by decide) (by decide)]
    exact b3
theorem BIn.go {A S : St} {nP nL p g : Nat} {o t c u : Nat → Nat} (h : BIn A S nP nL o t c u) (hg : g < nL) : BIn (goS nP A p g) (goS nP S p g) nP nL o t c u := by
  have e5 := h.E.2.1 5 (by omega) (by omega) g hg
  unfold goS
  rw [e5]
  exact (h.stepB hg).live _
theorem BIn.w {A S : St} {nP nL k j : Nat} {v : Int32} {o t c u : Nat → Nat} (h : BIn A S nP nL o t c u) (hk : k = 1 ∧ j < 6 ∧ (∃ b, b ≤ 9 ∧ v = nI b) ∨ k = 6 ∧ j < nL ∧ ∃ z, z ≤ 2 ∧ v = nI z) : BIn (sw A k j v) (sw S k j v) nP nL o t c u := by
  obtain ⟨a1, a2, a3, a4, a5, a6, a7, a8, a9, b1, b2, b3, b4⟩ := h
  have hn : ∀ k2, k2 ≠ 1 → k2 ≠ 6 → sw A k j v k2 = A k2 := fun k2 h1 h6 => sw_ne _ _ _ (by omega)
  refine ⟨by rw [hn 12 (by decide) (by decide)]; exact a1, a2, by rw [hn 12 (by decide) (by decide)]; exact a3, a4, a5.cong (hn 2 (by decide) (by decide)) (hn 3 (by decide) (by decide)) (hn 5 (by decide) (by decide)), a6, fun g hg => ?_, a8.cong (hn 7 (by decide) (by decide)) (hn 8 (by decide) (by decide)) (hn 10 (by decide) (by decide)), fun i hi => ?_, fun f h1 h2 => by rw [hn 11 (by decide) (by decide)]; exact b1 f h1 h2, b2, by rw [hn 11 (by decide) (by decide)]; exact b3, ?_⟩
  · rw [hn 4 (by decide) (by decide)]
    refine ⟨(a7 g hg).1, ?_⟩
    rw [swv]
    split
    · next hh =>
      rcases hk with ⟨q, _⟩ | ⟨_, _, q⟩
      · omega
      · exact q
    · exact (a7 g hg).2
  · rw [hn 0 (by decide) (by decide)]
    refine ⟨(a9 i hi).1, ?_⟩
    rw [swv]
    split
    · next hh =>
      rcases hk with ⟨_, _, q⟩ | ⟨q, _⟩
      · exact q
      · omega
    · exact (a9 i hi).2
  · refine ⟨fun k2 hk2 => ?_, fun k2 h1 h2 g hg => ?_, fun i hi => ?_⟩
    · funext i
      rw [swv, swv, b4.1 k2 hk2]
    · rw [swv, swv, b4.2.1 k2 h1 h2 g hg]
    · rw [swv, swv, b4.2.2 i hi]
