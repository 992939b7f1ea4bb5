/-! in mind, as pure facts -/
/-- all but what is scratch: rows 14, 18 to 21, the reading place, locks beyond those that there are -/
def Scr (nL : Nat) (S S' : St) : Prop := ∀ k, k ≠ 14 → k ≠ 18 → k ≠ 19 → k ≠ 20 → k ≠ 21 → ∀ j, ¬ (k = 12 ∧ j = 5) → ¬ (2 ≤ k ∧ k ≤ 6 ∧ nL ≤ j) → S' k j = S k j
theorem Scr.rf {nL : Nat} {S : St} : Scr nL S S := fun _ _ _ _ _ _ _ _ _ => rfl
theorem Scr.row {nL : Nat} {S S' : St} (h : Scr nL S S') {k : Nat} (hk : k = 14 ∨ k = 18 ∨ k = 19 ∨ k = 20 ∨ k = 21) (f : Nat → Int32) : Scr nL S (sr S' k f) := fun a a1 a2 a3 a4 a5 j j1 j2 => by
  rw [sr_ne _ _ (by omega)]
  exact h a a1 a2 a3 a4 a5 j j1 j2
def MIq (Z : ZZ) (h : Nat) (q : Nat → Nat) (nL : Nat) (r : Int32 × St) : Option Value → va_W → Prop := fun v ws => v = some (.int r.1) ∧ ∃ S', Scr nL r.2 S' ∧ ws = wM Z h q S'
theorem MIq_mk {Z : ZZ} {h : Nat} {q : Nat → Nat} {nL : Nat} {v : Int32} {S S' : St} (hs : Scr nL S S') : MIq Z h q nL (v, S) (some (.int v)) (wM Z h q S') := ⟨rfl, S', hs, rfl⟩
/-- a state in mind, over the one kept in row 18 -/
def Mnd (S V : St) : Prop := (∀ k, k ≠ 0 → k ≠ 8 → k ≠ 10 → k ≠ 12 → k ≠ 14 → k ≠ 18 → V k = S k) ∧ (∀ j, j ≠ 2 → j ≠ 3 → V 12 j = S 12 j) ∧ V 18 = pk S
theorem Mnd.start (S : St) : Mnd S (sr S 18 (pk S)) := ⟨fun k _ _ _ _ _ h => sr_ne _ _ h, fun j _ _ => by rw [sr_ne _ _ (by decide)], sr_eq _ _ _⟩
theorem live_12j (nP : Nat) (S : St) {j : Nat} (h2 : j ≠ 2) (h3 : j ≠ 3) : liveS nP S 12 j = S 12 j := by
  unfold liveS
  rw [swv, if_neg (by omega), swv, if_neg (by omega), lmB_12, lmA_12]
theorem liveN_12j (nP : Nat) (S : St) {j : Nat} (h2 : j ≠ 2) (h3 : j ≠ 3) : ∀ n, liveN nP S n 12 j = S 12 j
  | 0 => rfl
  | n + 1 => by rw [liveN, live_12j nP _ h2 h3, liveN_12j nP S h2 h3 n]
theorem Mnd.live {S V : St} (h : Mnd S V) (nP n : Nat) : Mnd S (liveN nP V n) := ⟨fun k h0 h8 h10 h12 h14 h18 => by rw [liveN_row nP V h0 h10 h12]; exact h.1 k h0 h8 h10 h12 h14 h18, fun j h2 h3 => by rw [liveN_12j nP V h2 h3]; exact h.2.1 j h2 h3, by rw [liveN_row nP V (by decide) (by decide) (by decide)]; exact h.2.2⟩
theorem goS_12j (nP : Nat) (S : St) (p g : Nat) {j : Nat} (h2 : j ≠ 2) (h3 : j ≠ 3) : goS nP S p g 12 j = S 12 j := by
  unfold goS
  rw [liveN_12j nP _ h2 h3, goB_row S p g (by decide) (by decide)]
theorem Mnd.go {S V : St} (h : Mnd S V) (nP p g : Nat) : Mnd S (goS nP V p g) := ⟨fun k h0 h8 h10 h12 h14 h18 => by rw [goS_row nP V p g h0 h8 h10 h12]; exact h.1 k h0 h8 h10 h12 h14 h18, fun j h2 h3 => by rw [goS_12j nP V p g h2 h3]; exact h.2.1 j h2 h3, by rw [goS_row nP V p g (by decide) (by decide) (by decide) (by decide)]; exact h.2.2⟩
theorem Mnd.w14 {S V : St} (h : Mnd S V) (j : Nat) (v : Int32) : Mnd S (sw V 14 j v) := ⟨fun k h0 h8 h10 h12 h14 h18 => by rw [sw_ne _ _ _ h14]; exact h.1 k h0 h8 h10 h12 h14 h18, fun i h2 h3 => by rw [sw_ne _ _ _ (by decide)]; exact h.2.1 i h2 h3, by rw [sw_ne _ _ _ (by decide)]; exact h.2.2⟩
theorem pk_73 (S : St) {j : Nat} (h : j < 4) : pk S (73 + j) = S 12 j := by
  rcases (show j = 0 ∨ j = 1 ∨ j = 2 ∨ j = 3 by omega) with rfl | rfl | rfl | rfl <;> rfl
theorem up_pk (V S : St) {k j : Nat} (h : (k = 0 ∨ k = 1 ∨ k = 11) ∧ j < 6 ∨ (2 ≤ k ∧ k ≤ 6) ∧ j < 7 ∨ (7 ≤ k ∧ k ≤ 10) ∧ j < 5 ∨ k = 12 ∧ j < 4) : up V (pk S) k j = S k j := by
  have h13 : k ≤ 12 := by omega
  rcases (show k = 0 ∨ k = 1 ∨ k = 2 ∨ k = 3 ∨ k = 4 ∨ k = 5 ∨ k = 6 ∨ k = 7 ∨ k = 8 ∨ k = 9 ∨ k = 10 ∨ k = 11 ∨ k = 12 by omega) with rfl | rfl | rfl | rfl | rfl | rfl | rfl | rfl | rfl | rfl | rfl | rfl | rfl
  · rw [up_0 V _ (by omega), Nat.zero_add, pk_0 S (by omega)]
  · rw [up_1 V _ (by omega), pk_1 S (by omega)]
  · rw [up_2 V _ (by omega), pk_2 S (by omega)]
  · rw [up_3 V _ (by omega), pk_3 S (by omega)]
  · rw [up_4 V _ (by omega), pk_4 S (by omega)]
  · rw [up_5 V _ (by omega), pk_5 S (by omega)]
  · rw [up_6 V _ (by omega), pk_6 S (by omega)]
  · rw [up_7 V _ (by omega), pk_7 S (by omega)]
  · rw [up_8 V _ (by omega), pk_8 S (by omega)]
  · rw [up_9 V _ (by omega), pk_9 S (by omega)]
  · rw [up_10 V _ (by omega), pk_10 S (by omega)]
  · rw [up_11 V _ (by omega), pk_11 S (by omega)]
  · rw [up_12 V _ (by omega), pk_73 S (by omega)]
theorem Mnd.back {S V : St} (h : Mnd S V) (Z : ZZ) (a : Nat) (q : Nat → Nat) : Same Z (wM Z a q (up V (V 18))) (wM Z a q (sr (sr S 18 (pk S)) 14 (V 14))) := by
  refine same_M (fun k hk j hj => ?_)
  rw [h.2.2]
  by_cases hr : (k = 0 ∨ k = 1 ∨ k = 11) ∧ j < 6 ∨ (2 ≤ k ∧ k ≤ 6) ∧ j < 7 ∨ (7 ≤ k ∧ k ≤ 10) ∧ j < 5 ∨ k = 12 ∧ j < 4
  · rw [up_pk V S hr, sr_ne _ _ (by omega), sr_ne _ _ (by omega)]
  · rw [up_else V _ hr]
    by_cases h14 : k = 14
    · subst h14
      rw [sr_eq]
    · rw [sr_ne _ _ h14]
      by_cases h18 : k = 18
      · subst h18
        rw [sr_eq, h.2.2]
      · rw [sr_ne _ _ h18]
        by_cases h12 : k = 12
        · subst h12
          exact h.2.1 j (by omega) (by omega)
        · have h0 : k ≠ 0 := fun e => by
            subst e
            have : j < 6 := hj
            omega
          have h8 : k ≠ 8 := fun e => by
            subst e
            have : j < 5 := hj
            omega
          have h10 : k ≠ 10 := fun e => by
            subst e
            have : j < 5 := hj
            omega
          rw [h.1 k h0 h8 h10 h12 h14 h18]
theorem Scr.back (nL : Nat) (S : St) (f g : Nat → Int32) : Scr nL S (sr (sr S 18 f) 14 g) := (Scr.rf.row (by omega) f).row (by omega) g
theorem Vd.cong {S V : St} {nP : Nat} (h : Vd S nP) (h7 : V 7 = S 7) (h8 : V 8 = S 8) (h10 : V 10 = S 10) : Vd V nP := fun p hp => by
  rw [h7, h8, h10]
  exact h p hp
theorem Lks.cong {S V : St} {nL : Nat} {o t c : Nat → Nat} (h : Lks S nL o t c) (h2 : V 2 = S 2) (h3 : V 3 = S 3) (h5 : V 5 = S 5) : Lks V nL o t c := fun g hg => by
  rw [h2, h3, h5]
  exact h g hg
theorem Vd.stepB {S : St} {nP nL : Nat} {o t c : Nat → Nat} (h : Vd S nP) (hLk : Lks S nL o t c) (p : Nat) {g : Nat} (hg : g < nL) : Vd (goB S p g) nP := by
  intro r hr
  obtain ⟨h1, h2, h3⟩ := h r hr
  obtain ⟨l1, l2, l3, l4, l5, l6, l7⟩ := hLk g hg
  have e8 : goB S p g 8 = goA S p g 8 := by
    unfold goB
    split
    · split
      · rfl
      · rw [sw_ne _ _ _ (by decide)]
    · rfl
  rw [goB_row S p g (r := 7) (by decide) (by decide), goB_row S p g (r := 10) (by decide) (by decide), e8]
  refine ⟨h1, ?_, h3⟩
  unfold goA
  rw [swv]
  by_cases e : r = p
  · rw [if_pos ⟨rfl, e⟩]
    split
    · exact ⟨t g, l5, l2⟩
    · exact ⟨o g, l4, l1⟩
  · rw [if_neg (fun q => e q.2)]
    exact h2
theorem Vd.go {S : St} {nP nL : Nat} {o t c : Nat → Nat} (h : Vd S nP) (hLk : Lks S nL o t c) (p : Nat) {g : Nat} (hg : g < nL) : Vd (goS nP S p g) nP := (Vd.stepB h hLk p hg).live _
theorem Lks.go {S : St} {nP nL : Nat} {o t c : Nat → Nat} (h : Lks S nL o t c) (p g : Nat) : Lks (goS nP S p g) nL o t c := h.cong (goS_row nP S p g (by decide) (by decide) (by decide) (by decide)) (goS_row nP S p g (by decide) (by decide) (by decide) (by decide)) (goS_row nP S p g (by decide) (by decide) (by decide) (by decide))
theorem pass_pre {S : St} {nP nL p g : Nat} {o t c : Nat → Nat} (hV : Vd S nP) (hLk : Lks S nL o t c) (hp : p < 2 ^ 31) (hg : g < nL) (hL8 : nL ≤ 8) (hc : ¬ canPassS S (nI p) (nI g) = 0) : (S 8 p = S 2 g ∨ S 8 p = S 3 g) ∧ (S 3 g = 6 → ∃ r, r < 6 ∧ S 2 g = nI r) ∧ S 5 g = nI (c g) ∧ c g < 2 ^ 31 ∧ Vd (goB S p g) nP := by
  obtain ⟨l1, l2, l3, l4, l5, l6, l7⟩ := hLk g hg
  refine ⟨?_, fun e => ⟨o g, ?_, l1⟩, l3, by omega, Vd.stepB hV hLk p hg⟩
  · have := canP_at (canP_1 hc)
    rwa [show cl (nI p) = p from nI_clamp hp, show cl (nI g) = g from nI_clamp (by omega)] at this
  · rw [l2] at e
    have := (nI_eq (a := t g) (b := 6) (by omega) (by omega)).mp e
    omega
/-- rows 0 to 12 alike, as far as there are locks -/
def Eq9 (nL : Nat) (S V : St) : Prop := (∀ k, k = 0 ∨ k = 1 ∨ (7 ≤ k ∧ k ≤ 11) → V k = S k) ∧ (∀ k, 2 ≤ k → k ≤ 6 → ∀ g, g < nL → V k g = S k g) ∧ (∀ j, j < 4 → V 12 j = S 12 j)
theorem Eq9.rf {nL : Nat} {S : St} : Eq9 nL S S := ⟨fun _ _ => rfl, fun _ _ _ _ _ => rfl, fun _ _ => rfl⟩
theorem Eq9.symm {nL : Nat} {S V : St} (h : Eq9 nL S V) : Eq9 nL V S := ⟨fun k hk => (h.1 k hk).symm, fun k a b g hg => (h.2.1 k a b g hg).symm, fun j hj => (h.2.2 j hj).symm⟩
theorem Eq9.trans {nL : Nat} {S V W : St} (h : Eq9 nL S V) (h' : Eq9 nL V W) : Eq9 nL S W := ⟨fun k hk => (h'.1 k hk).trans (h.1 k hk), fun k a b g hg => (h'.2.1 k a b g hg).trans (h.2.1 k a b g hg), fun j hj => (h'.2.2 j hj).trans (h.2.2 j hj)⟩
theorem Eq9.row {nL : Nat} {S : St} {k : Nat} (hk : 12 < k) (f : Nat → Int32) : Eq9 nL S (sr S k f) := ⟨fun a _ => sr_ne _ _ (by omega), fun a _ _ g _ => by rw [sr_ne _ _ (by omega)], fun j _ => by rw [sr_ne _ _ (by omega)]⟩
theorem Eq9.w14 {nL : Nat} {S V : St} (h : Eq9 nL S V) (i : Nat) (v : Int32) : Eq9 nL S (sw V 14 i v) := ⟨fun a ha => by rw [sw_ne _ _ _ (by omega)]; exact h.1 a ha, fun a a1 a2 g hg => by rw [sw_ne _ _ _ (by omega)]; exact h.2.1 a a1 a2 g hg, fun j hj => by rw [sw_ne _ _ _ (by omega)]; exact h.2.2 j hj⟩
theorem lmA_eq {nP nL : Nat} {S V : St} (h : Eq9 nL S V) : ∀ n, lmA nP V n 0 = lmA nP S n 0 ∧ lmAg nP V n = lmAg nP S n
  | 0 => ⟨h.1 0 (by omega), rfl⟩
  | n + 1 => by
    obtain ⟨i0, i1⟩ := lmA_eq (nP := nP) h n
    have e8 : lmA nP V n 8 = lmA nP S n 8 := by rw [lmA_row _ _ (by decide), lmA_row _ _ (by decide)]; exact h.1 8 (by omega)
    have e7 : lmA nP V n 7 = lmA nP S n 7 := by rw [lmA_row _ _ (by decide), lmA_row _ _ (by decide)]; exact h.1 7 (by omega)
    have e1 : lmA nP V n 1 = lmA nP S n 1 := by rw [lmA_row _ _ (by decide), lmA_row _ _ (by decide)]; exact h.1 1 (by omega)
    have el : leftS (lmA nP V n) nP n = leftS (lmA nP S n) nP n := by
      unfold leftS
      rw [i0, e1, bin_cong e7 e8]
    refine ⟨?_, ?_⟩
    · rw [lmA, lmA, sw_eq, sw_eq, i0, el]
    · rw [lmAg, lmAg, el, i1, e8]
theorem lmB_eq {nL : Nat} {S V : St} (h8 : V 8 = S 8) (h10 : V 10 = S 10) {e e' : Int32} (he : e' = e) : ∀ n, lmB V n 10 = lmB S n 10 ∧ lmBg V e' n = lmBg S e n
  | 0 => ⟨h10, he⟩
  | n + 1 => by
    obtain ⟨i0, i1⟩ := lmB_eq (nL := nL) h8 h10 he n
    have e8 : lmB V n 8 = lmB S n 8 := by rw [lmB_row _ (by decide), lmB_row _ (by decide)]; exact h8
    rw [lmB, lmB, lmBg, lmBg, e8, i0, i1]
    split
    · exact ⟨by rw [sw_eq, sw_eq, i0], rfl⟩
    · exact ⟨i0, rfl⟩
theorem Eq9.lvS {nP nL : Nat} {S V : St} (h : Eq9 nL S V) : liveG nP V = liveG nP S ∧ Eq9 nL (liveS nP S) (liveS nP V) := by
  have hA := lmA_eq (nP := nP) h 6
  have h8 : lmA nP V 6 8 = lmA nP S 6 8 := by rw [lmA_row _ _ (by decide), lmA_row _ _ (by decide)]; exact h.1 8 (by omega)
  have h10 : lmA nP V 6 10 = lmA nP S 6 10 := by rw [lmA_row _ _ (by decide), lmA_row _ _ (by decide)]; exact h.1 10 (by omega)
  have hB := lmB_eq (nL := nL) h8 h10 hA.2 nP
  have hg : liveG nP V = liveG nP S := hB.2
  refine ⟨hg, fun k hk => ?_, fun k k1 k2 g hgl => ?_, fun j hj => ?_⟩
  · unfold liveS
    rw [sw_ne _ _ _ (by omega), sw_ne _ _ _ (by omega), sw_ne _ _ _ (by omega), sw_ne _ _ _ (by omega)]
    by_cases e10 : k = 10
    · subst e10
      exact hB.1
    · rw [lmB_row _ e10, lmB_row _ e10]
      by_cases e0 : k = 0
      · subst e0
        exact hA.1
      · rw [lmA_row _ _ e0, lmA_row _ _ e0]
        exact h.1 k hk
  · unfold liveS
    rw [sw_ne _ _ _ (by omega), sw_ne _ _ _ (by omega), sw_ne _ _ _ (by omega), sw_ne _ _ _ (by omega), lmB_row _ (by omega), lmB_row _ (by omega), lmA_row _ _ (by omega), lmA_row _ _ (by omega)]
    exact h.2.1 k k1 k2 g hgl
  · by_cases e3 : j = 3
    · subst e3
      rw [liveS_g, liveS_g, hg, h.2.2 3 (by decide)]
    · by_cases e2 : j = 2
      · subst e2
        rw [liveS_m, liveS_m, h.2.2 2 (by decide)]
      · rw [live_12j nP _ e2 e3, live_12j nP _ e2 e3]
        exact h.2.2 j hj
theorem Eq9.live {nP nL : Nat} {S V : St} (h : Eq9 nL S V) : ∀ n, Eq9 nL (liveN nP S n) (liveN nP V n)
  | 0 => h
  | n + 1 => (Eq9.lvS (Eq9.live h n)).2
theorem Eq9.can {nL : Nat} {S V : St} (h : Eq9 nL S V) (hL : S 12 0 = nI nL) (hL8 : nL ≤ 8) (x y : Int32) : canPassS V x y = canPassS S x y := by
  unfold canPassS hasPersonS hasLockS
  rw [h.2.2 1 (by decide), h.2.2 0 (by decide), h.1 8 (by omega)]
  by_cases hy : y < 0
  · rw [if_pos hy]
    simp
  · by_cases hy2 : S 12 0 ≤ y
    · rw [if_neg hy, if_pos hy2]
      simp
    · obtain ⟨j, hj, rfl⟩ := nI_of hy
      have hjl : j < nL := by
        rw [hL, nI_leI (by omega) hj] at hy2
        omega
      rw [show cl (nI j) = j from nI_clamp hj, h.2.1 6 (by omega) (by omega) j hjl, h.2.1 2 (by omega) (by omega) j hjl, h.2.1 3 (by omega) (by omega) j hjl]
theorem Eq9.stepB {nL p g : Nat} {S V : St} (h : Eq9 nL S V) (hg : g < nL) : Eq9 nL (goB S p g) (goB V p g) := by
  have e2 := h.2.1 2 (by omega) (by omega) g hg
  have e3 := h.2.1 3 (by omega) (by omega) g hg
  have e4 := h.2.1 4 (by omega) (by omega) g hg
  have e8 := h.1 8 (by omega)
  have e0 := h.1 0 (by omega)
  refine ⟨fun k hk => ?_, fun k k1 k2 a ha => ?_, fun j hj => ?_⟩
  · by_cases hk8 : k = 8
    · subst hk8
      unfold goB goA
      rw [e3, e2]
      split
      · split
        · rw [sw_eq, sw_eq, e8]
        · rw [sw_ne _ _ _ (show (8 : Nat) ≠ 0 by decide), sw_ne _ _ _ (show (8 : Nat) ≠ 0 by decide), sw_eq, sw_eq, e8]
      · rw [sw_eq, sw_eq, e8]
    · by_cases hk0 : k = 0
      · subst hk0
        unfold goB goA
        rw [e3, e2]
        split
        · split
          · rw [sw_ne _ _ _ (by decide), sw_ne _ _ _ (by decide), e0]
          · rw [sw_eq, sw_eq, sw_ne _ _ _ (by decide), sw_ne _ _ _ (by decide), e0, e4]
        · rw [sw_ne _ _ _ (by decide), sw_ne _ _ _ (by decide), e0]
      · rw [goB_row _ _ _ hk8 hk0, goB_row _ _ _ hk8 hk0]
        exact h.1 k hk
  · rw [goB_row _ _ _ (by omega) (by omega), goB_row _ _ _ (by omega) (by omega)]
    exact h.2.1 k k1 k2 a ha
  · rw [goB_row _ _ _ (by omega) (by omega), goB_row _ _ _ (by omega) (by omega)]
    exact h.2.2 j hj
theorem Eq9.go {nP nL p g : Nat} {S V : St} (h : Eq9 nL S V) (hg : g < nL) : Eq9 nL (goS nP S p g) (goS nP V p g) := by
  unfold goS
  rw [h.2.1 5 (by omega) (by omega) g hg]
  exact (Eq9.stepB h hg).live _
theorem cnt_nat (f : Nat → Int32) (r : Int32) : ∀ n, ∃ k, k ≤ n ∧ cnt f r n = nI k
  | 0 => ⟨0, Nat.le_refl _, rfl⟩
  | n + 1 => by
    obtain ⟨k, hk, e⟩ := cnt_nat f r n
    rw [cnt, e]
    split
    · exact ⟨k + 1, by omega, nI_1 k⟩
    · exact ⟨k, by omega, rfl⟩
theorem lmAg_nat (nP : Nat) (S : St) : ∀ n, ∃ k, k ≤ n * nP ∧ lmAg nP S n = nI k
  | 0 => ⟨0, Nat.zero_le _, rfl⟩
  | n + 1 => by
    obtain ⟨k, hk, e⟩ := lmAg_nat nP S n
    obtain ⟨k2, hk2, e2⟩ := cnt_nat (lmA nP S n 8) (nI n) nP
    rw [lmAg, e, e2, nI_add, Nat.succ_mul]
    split
    · exact ⟨k, by omega, rfl⟩
    · exact ⟨k + k2, by omega, rfl⟩
theorem lmBg_nat (S : St) {e : Int32} {e0 : Nat} (he : e = nI e0) : ∀ n, ∃ k, k ≤ e0 + n ∧ lmBg S e n = nI k
  | 0 => ⟨e0, Nat.le_refl _, he⟩
  | n + 1 => by
    obtain ⟨k, hk, e⟩ := lmBg_nat S he n
    rw [lmBg, e]
    unfold one0
    split
    · split
      · exact ⟨k + 1, by omega, nI_1 k⟩
      · exact ⟨k, by omega, by rw [Int32.add_zero]⟩
    · exact ⟨k, by omega, rfl⟩
theorem liveG_nat {nP : Nat} (hP5 : nP ≤ 5) (S : St) : ∃ k, k ≤ 35 ∧ liveG nP S = nI k := by
  obtain ⟨k, hk, e⟩ := lmAg_nat nP S 6
  obtain ⟨k2, hk2, e2⟩ := lmBg_nat (lmA nP S 6) e nP
  exact ⟨k2, by omega, e2⟩
theorem liveG_le0 {nP : Nat} (hP5 : nP ≤ 5) (S : St) : liveG nP S ≤ 0 ↔ liveG nP S = 0 := by
  obtain ⟨k, hk, e⟩ := liveG_nat hP5 S
  rw [e]
  have h1 : nI k ≤ nI 0 ↔ k ≤ 0 := nI_leI (by omega) (by omega)
  have h2 : nI k = nI 0 ↔ k = 0 := nI_eq (by omega) (by omega)
  show nI k ≤ nI 0 ↔ nI k = nI 0
  rw [h1, h2]
  omega
theorem live1_g (nP : Nat) (S : St) : liveN nP S 1 12 3 - S 12 3 = liveG nP S := by
  show liveS nP S 12 3 - S 12 3 = _
  rw [liveS_g, Int32.add_comm, Int32.add_sub_cancel]
