/-! the two sides, side by side: the letters become a burrow -/
theorem sgT {T T' : St} {nT : Nat} (h : ∀ j, j < nT → T' 0 j = T 0 j) (k : Nat) : sg T' nT k = sg T nT k := by
  unfold sg
  by_cases e : nT ≤ k
  · rw [if_pos e, if_pos e]
  · rw [if_neg e, if_neg e]
    exact h k (by omega)
theorem dgT {T T' : St} {nT : Nat} (h : ∀ k, sg T' nT k = sg T nT k) (k : Nat) : dg T' nT k = dg T nT k := by
  unfold dg
  rw [h]
theorem nmbT {T T' : St} {nT : Nat} (h : ∀ k, sg T' nT k = sg T nT k) (k : Nat) : nmb T' nT k = nmb T nT k := by
  unfold nmb
  rw [dgT h, dgT h, dgT h]
theorem dueT {T T' : St} {nT : Nat} (h : ∀ k, sg T' nT k = sg T nT k) (c : Int32) (k : Nat) : dueS T' nT c k = dueS T nT c k := by
  unfold dueS
  rw [dgT h, h]
theorem bsLT {T T' : St} {nT : Nat} (h : ∀ k, sg T' nT k = sg T nT k) (sh : Nat) : ∀ r i k, bsL T' nT sh r i k = bsL T nT sh r i k
  | 0, _, _ => rfl
  | r + 1, i, k => by rw [bsL, bsL, dueT h, bsLT h sh r, bsLT h sh r]
theorem bsT {T T' : St} {nT : Nat} (h : ∀ k, sg T' nT k = sg T nT k) (k : Nat) : bs T' nT k = bs T nT k := by
  unfold bs
  rw [h, bsLT h]
theorem mfLT {T T' : St} {nT : Nat} (h : ∀ k, sg T' nT k = sg T nT k) : ∀ r a, mfL T' nT r a = mfL T nT r a
  | 0, _ => rfl
  | r + 1, a => by rw [mfL, mfL, bsT h, mfLT h r]
theorem mfT {T T' : St} {nT : Nat} (h : ∀ k, sg T' nT k = sg T nT k) : mf T' nT = mf T nT := mfLT h 96 0
theorem stOT {T T' : St} {nT : Nat} (h : ∀ k, sg T' nT k = sg T nT k) (V : St) (k : Nat) : stO T' nT V k = stO T nT V k := by
  unfold stO
  simp only [h, dgT h, nmbT h]
theorem stST {T T' : St} {nT : Nat} (h : ∀ k, sg T' nT k = sg T nT k) (V : St) (k : Nat) : stS T' nT V k = stS T nT V k := by
  unfold stS
  simp only [h, dgT h, nmbT h]
theorem rdLT {T T' : St} {nT : Nat} (h : ∀ k, sg T' nT k = sg T nT k) (S0 : St) : ∀ r k V, rdL T' nT S0 r k V = rdL T nT S0 r k V
  | 0, _, _ => rfl
  | r + 1, k, V => by rw [rdL, rdL, stOT h, bsT h, stST h, rdLT h S0 r]
theorem kd_nat {v : Int32} (h : ¬ kindOfS v < 0) : ∃ k, k ≤ 5 ∧ kindOfS v = nI k := by
  unfold kindOfS at h ⊢
  repeat' split
  · exact ⟨0, by omega, rfl⟩
  · exact ⟨1, by omega, rfl⟩
  · exact ⟨2, by omega, rfl⟩
  · exact ⟨3, by omega, rfl⟩
  · exact ⟨4, by omega, rfl⟩
  · exact ⟨5, by omega, rfl⟩
  · next h1 h2 h3 h4 h5 h6 =>
    rw [if_neg h1, if_neg h2, if_neg h3, if_neg h4, if_neg h5, if_neg h6] at h
    exact absurd (by decide) h
theorem sw_eq9 {A S : St} {nL k j : Nat} {v : Int32} (hE : Eq9 nL A S) : Eq9 nL (sw A k j v) (sw S k j v) := by
  refine ⟨fun k2 hk2 => ?_, fun k2 h1 h2 g hg => ?_, fun i hi => ?_⟩
  · funext i
    rw [swv, swv, hE.1 k2 hk2]
  · rw [swv, swv, hE.2.1 k2 h1 h2 g hg]
  · rw [swv, swv, hE.2.2 i hi]
theorem BI.leak {A S : St} {x1 v : Int32} (h : BI A S) : BI (tellLeakS A x1 v) (tellLeakS S x1 v) := by
  unfold tellLeakS
  by_cases hc : okLeak x1 v = 1
  · rw [if_pos hc, if_pos hc]
    obtain ⟨nP, nL, o, t, c, u, hB⟩ := h
    unfold okLeak at hc
    by_cases h1 : isRoomS x1 = 0
    · rw [if_pos h1] at hc
      exact absurd hc (by decide)
    · rw [if_neg h1] at hc
      obtain ⟨j, hj, rfl⟩ := isRoom_of h1
      by_cases h2 : v < 0
      · rw [if_pos h2] at hc
        exact absurd hc (by decide)
      · rw [if_neg h2] at hc
        by_cases h3 : v ≤ 9
        · obtain ⟨b, hb0, hb, rfl⟩ := mins_of2 (a := 0) (b := 9) (na := 0) (nb := 9) rfl rfl (by decide) (by decide) (Int32.not_lt.mp h2) h3
          rw [show cl (nI j) = j from nI_clamp (by omega)]
          exact ⟨nP, nL, o, t, c, u, hB.w (Or.inl ⟨rfl, hj, b, hb, rfl⟩)⟩
        · rw [if_neg h3] at hc
          exact absurd hc (by decide)
  · rw [if_neg hc, if_neg hc]
    exact h
theorem BI.air {A S : St} {x1 v : Int32} (h : BI A S) : BI (tellAirS A x1 v) (tellAirS S x1 v) := by
  unfold tellAirS
  by_cases hc : okAir x1 v = 1
  · rw [if_pos hc, if_pos hc]
    obtain ⟨nP, nL, o, t, c, u, a1, a2, a3, a4, a5, a6, a7, a8, a9, b1, b2, b3, b4⟩ := h
    unfold okAir at hc
    by_cases h1 : isRoomS x1 = 0
    · rw [if_pos h1] at hc
      exact absurd hc (by decide)
    · rw [if_neg h1] at hc
      obtain ⟨j, hj, rfl⟩ := isRoom_of h1
      by_cases h2 : v < 0
      · rw [if_pos h2] at hc
        exact absurd hc (by decide)
      · rw [if_neg h2] at hc
        by_cases h3 : v ≤ 999
        · obtain ⟨b, hb0, hb, rfl⟩ := mins_of2 (a := 0) (b := 999) (na := 0) (nb := 999) rfl rfl (by decide) (by decide) (Int32.not_lt.mp h2) h3
          rw [show cl (nI j) = j from nI_clamp (by omega)]
          have hn : ∀ k, k ≠ 0 → sw A 0 j (nI b) k = A k := fun k hk => sw_ne _ _ _ hk
          refine ⟨nP, nL, o, t, c, u, by rw [hn 12 (by decide)]; exact a1, a2, by rw [hn 12 (by decide)]; exact a3, a4, a5.cong (hn 2 (by decide)) (hn 3 (by decide)) (hn 5 (by decide)), a6, by rw [hn 4 (by decide), hn 6 (by decide)]; exact a7, a8.cong (hn 7 (by decide)) (hn 8 (by decide)) (hn 10 (by decide)), fun i hi => ?_, by rw [hn 11 (by decide)]; exact b1, b2, by rw [hn 11 (by decide)]; exact b3, sw_eq9 b4⟩
          rw [hn 1 (by decide)]
          refine ⟨?_, (a9 i hi).2⟩
          rw [swv]
          split
          · exact ⟨b, hb, rfl⟩
          · exact (a9 i hi).1
        · rw [if_neg h3] at hc
          exact absurd hc (by decide)
  · rw [if_neg hc, if_neg hc]
    exact h
theorem BI.suits {A S : St} {f v : Int32} (h : BI A S) : BI (tellSuitsS A f v) (tellSuitsS S f v) := by
  unfold tellSuitsS
  by_cases hc : okSuits f v = 1
  · rw [if_pos hc, if_pos hc]
    obtain ⟨nP, nL, o, t, c, u, a1, a2, a3, a4, a5, a6, a7, a8, a9, b1, b2, b3, b4⟩ := h
    unfold okSuits at hc
    by_cases h1 : f < 1
    · rw [if_pos h1] at hc
      exact absurd hc (by decide)
    · rw [if_neg h1] at hc
      by_cases h2 : 5 < f
      · rw [if_pos h2] at hc
        exact absurd hc (by decide)
      · rw [if_neg h2] at hc
        by_cases h3 : v < 0
        · rw [if_pos h3] at hc
          exact absurd hc (by decide)
        · rw [if_neg h3] at hc
          by_cases h4 : v ≤ 5
          · obtain ⟨b, hb0, hb, rfl⟩ := mins_of2 (a := 0) (b := 5) (na := 0) (nb := 5) rfl rfl (by decide) (by decide) (Int32.not_lt.mp h3) h4
            obtain ⟨j, hj1, hj5, rfl⟩ := fit_of h1 h2
            rw [show cl (nI j) = j from nI_clamp (by omega)]
            have hn : ∀ k, k ≠ 11 → sw A 11 j (nI b) k = A k := fun k hk => sw_ne _ _ _ hk
            refine ⟨nP, nL, o, t, c, upN u j b, by rw [hn 12 (by decide)]; exact a1, a2, by rw [hn 12 (by decide)]; exact a3, a4, a5.cong (hn 2 (by decide)) (hn 3 (by decide)) (hn 5 (by decide)), a6, by rw [hn 4 (by decide), hn 6 (by decide)]; exact a7, a8.cong (hn 7 (by decide)) (hn 8 (by decide)) (hn 10 (by decide)), by rw [hn 0 (by decide), hn 1 (by decide)]; exact a9, fun i h1 h2 => ?_, fun i => ?_, by rw [swv, if_neg (by omega)]; exact b3, sw_eq9 b4⟩
            · rw [swv]
              unfold upN
              by_cases e : i = j
              · rw [if_pos ⟨rfl, e⟩, if_pos e]
              · rw [if_neg (fun q => e q.2), if_neg e]
                exact b1 i h1 h2
            · unfold upN
              split
              · exact hb
              · exact b2 i
          · rw [if_neg h4] at hc
            exact absurd hc (by decide)
  · rw [if_neg hc, if_neg hc]
    exact h
theorem add_at2 (A : St) (nL : Nat) (x1 y1 t1 c1 : Int32) : addLock A nL x1 y1 t1 c1 2 nL = mn x1 y1 ∧ addLock A nL x1 y1 t1 c1 3 nL = mx x1 y1 ∧ addLock A nL x1 y1 t1 c1 4 nL = t1 ∧ addLock A nL x1 y1 t1 c1 5 nL = c1 ∧ addLock A nL x1 y1 t1 c1 6 nL = 0 ∧ addLock A nL x1 y1 t1 c1 12 0 = nI (nL + 1) := by
  unfold addLock
  refine ⟨?_, ?_, ?_, ?_, ?_, ?_⟩
  · rw [swv, if_neg (by omega), swv, if_neg (by omega), swv, if_neg (by omega), swv, if_neg (by omega), swv, if_neg (by omega), swv, if_pos ⟨rfl, rfl⟩]
  · rw [swv, if_neg (by omega), swv, if_neg (by omega), swv, if_neg (by omega), swv, if_neg (by omega), swv, if_pos ⟨rfl, rfl⟩]
  · rw [swv, if_neg (by omega), swv, if_neg (by omega), swv, if_neg (by omega), swv, if_pos ⟨rfl, rfl⟩]
  · rw [swv, if_neg (by omega), swv, if_neg (by omega), swv, if_pos ⟨rfl, rfl⟩]
  · rw [swv, if_neg (by omega), swv, if_pos ⟨rfl, rfl⟩]
  · rw [swv, if_pos ⟨rfl, rfl⟩]
theorem add_row (A : St) (nL : Nat) (x1 y1 t1 c1 : Int32) {k : Nat} (h : k < 2 ∨ 7 ≤ k) (h12 : k ≠ 12) : addLock A nL x1 y1 t1 c1 k = A k := by
  unfold addLock
  rw [sw_ne _ _ _ h12, sw_ne _ _ _ (by omega), sw_ne _ _ _ (by omega), sw_ne _ _ _ (by omega), sw_ne _ _ _ (by omega), sw_ne _ _ _ (by omega)]
theorem add_12 (A : St) (nL : Nat) (x1 y1 t1 c1 : Int32) {j : Nat} (h : j ≠ 0) : addLock A nL x1 y1 t1 c1 12 j = A 12 j := by
  unfold addLock
  rw [swv, if_neg (by omega), sw_ne _ _ _ (by decide), sw_ne _ _ _ (by decide), sw_ne _ _ _ (by decide), sw_ne _ _ _ (by decide), sw_ne _ _ _ (by decide)]
theorem BI.lock {A S : St} {nL : Nat} {x1 y1 t1 c1 : Int32} (h : BI A S) (hL : A 12 0 = nI nL) (hL7 : nL ≤ 7) (ht : ¬ 9 < t1) (hc9 : ¬ 9 < c1) : BI (tellLockS A nL x1 y1 t1 c1) (tellLockS S nL x1 y1 t1 c1) := by
  unfold tellLockS
  by_cases hc : okLock nL x1 y1 t1 c1 = 1
  · rw [if_pos hc, if_pos hc]
    obtain ⟨nP, n2, o, t, c, u, a1, a2, a3, a4, a5, a6, a7, a8, a9, b1, b2, b3, b4⟩ := h
    have e2 : n2 = nL := (nI_eq (by omega) (by omega)).mp (a3.symm.trans hL)
    subst e2
    have hl7 := okLk_lt hL7 hc
    unfold okLock at hc
    by_cases h1 : isPlaceS x1 = 0
    · rw [if_pos h1] at hc
      exact absurd hc (by decide)
    · rw [if_neg h1] at hc
      by_cases h2 : isPlaceS y1 = 0
      · rw [if_pos h2] at hc
        exact absurd hc (by decide)
      · rw [if_neg h2] at hc
        obtain ⟨p, hp, rfl⟩ := isPlace_of h1
        obtain ⟨q, hq, rfl⟩ := isPlace_of h2
        by_cases h3 : nI p = nI q
        · rw [if_neg (fun z => z h3)] at hc
          exact absurd hc (by decide)
        · rw [if_pos h3] at hc
          have hpq : p ≠ q := fun z => h3 (by rw [z])
          by_cases h4 : t1 < 0
          · rw [if_pos h4] at hc
            exact absurd hc (by decide)
          · rw [if_neg h4] at hc
            by_cases h5 : c1 < 1
            · rw [if_pos h5] at hc
              exact absurd hc (by decide)
            · obtain ⟨s, hs0, hs, rfl⟩ := mins_of (a := 0) (b := 9) (na := 0) (nb := 9) rfl rfl (by decide) (by decide) (Int32.not_lt.mp h4) ht
              obtain ⟨c2, hc0, hc2, rfl⟩ := mins_of (a := 1) (b := 9) (na := 1) (nb := 9) rfl rfl (by decide) (by decide) (Int32.not_lt.mp h5) hc9
              obtain ⟨w2, w3, w4, w5, w6, w12⟩ := add_at2 A n2 (nI p) (nI q) (nI s) (nI c2)
              have hr : ∀ k, (k < 2 ∨ 7 ≤ k) → k ≠ 12 → addLock A n2 (nI p) (nI q) (nI s) (nI c2) k = A k := fun k h1 h2 => add_row A n2 _ _ _ _ h1 h2
              refine ⟨nP, n2 + 1, upN o n2 (min p q), upN t n2 (max p q), upN c n2 c2, u, by rw [add_12 A n2 _ _ _ _ (by decide)]; exact a1, a2, w12, by omega, fun g hg => ?_, fun g hg => ?_, fun g hg => ?_, a8.cong (hr 7 (by omega) (by decide)) (hr 8 (by omega) (by decide)) (hr 10 (by omega) (by decide)), by rw [hr 0 (by omega) (by decide), hr 1 (by omega) (by decide)]; exact a9, by rw [hr 11 (by omega) (by decide)]; exact b1, b2, by rw [hr 11 (by omega) (by decide)]; exact b3, ?_⟩
              · by_cases e : g = n2
                · subst e
                  rw [upN_at, upN_at, upN_at, w2, w3, w5, mn_nI (by omega) (by omega), mx_nI (by omega) (by omega)]
                  exact ⟨rfl, rfl, rfl, by omega, by omega, by omega, hc2⟩
                · have hlt : g < n2 := by omega
                  rw [add_in hlt (by decide), add_in hlt (by decide), add_in hlt (by decide), upN_lt hlt, upN_lt hlt, upN_lt hlt]
                  exact a5 g hlt
              · by_cases e : g = n2
                · subst e
                  rw [upN_at]
                  exact hc0
                · rw [upN_lt (by omega)]
                  exact a6 g (by omega)
              · by_cases e : g = n2
                · subst e
                  rw [w4, w6]
                  exact ⟨⟨s, hs, rfl⟩, 0, by omega, rfl⟩
                · have hlt : g < n2 := by omega
                  rw [add_in hlt (by decide), add_in hlt (by decide)]
                  exact a7 g hlt
              · obtain ⟨z2, z3, z4, z5, z6, z12⟩ := add_at2 S n2 (nI p) (nI q) (nI s) (nI c2)
                refine ⟨fun k hk => by rw [hr k (by omega) (by omega), add_row S n2 _ _ _ _ (by omega) (by omega)]; exact b4.1 k hk, fun k k1 k2 g hg => ?_, fun j hj => ?_⟩
                · by_cases e : g = n2
                  · subst e
                    rcases (show k = 2 ∨ k = 3 ∨ k = 4 ∨ k = 5 ∨ k = 6 by omega) with rfl | rfl | rfl | rfl | rfl
                    · rw [w2, z2]
                    · rw [w3, z3]
                    · rw [w4, z4]
                    · rw [w5, z5]
                    · rw [w6, z6]
                  · have hlt : g < n2 := by omega
                    rw [add_in hlt (by omega), add_in hlt (by omega)]
                    exact b4.2.1 k k1 k2 g hlt
                · by_cases e : j = 0
                  · subst e
                    rw [w12, z12]
                  · rw [add_12 A n2 _ _ _ _ e, add_12 S n2 _ _ _ _ e]
                    exact b4.2.2 j hj
  · rw [if_neg hc, if_neg hc]
    exact h
theorem per_row (A : St) (nP : Nat) (k1 x1 f1 s1 : Int32) {k : Nat} (h : k < 7 ∨ 11 ≤ k) (h12 : k ≠ 12) : addPerson A nP k1 x1 f1 s1 k = A k := by
  unfold addPerson
  rw [sw_ne _ _ _ h12, sw_ne _ _ _ (by omega), sw_ne _ _ _ (by omega), sw_ne _ _ _ (by omega), sw_ne _ _ _ (by omega)]
theorem per_12 (A : St) (nP : Nat) (k1 x1 f1 s1 : Int32) {j : Nat} (h : j ≠ 1) : addPerson A nP k1 x1 f1 s1 12 j = A 12 j := by
  unfold addPerson
  rw [swv, if_neg (by omega), sw_ne _ _ _ (by decide), sw_ne _ _ _ (by decide), sw_ne _ _ _ (by decide), sw_ne _ _ _ (by decide)]
theorem per_in (A : St) (nP : Nat) (k1 x1 f1 s1 : Int32) (k j : Nat) (h12 : k ≠ 12) : addPerson A nP k1 x1 f1 s1 k j = if k = 10 ∧ j = nP then s1 else if k = 9 ∧ j = nP then f1 else if k = 8 ∧ j = nP then x1 else if k = 7 ∧ j = nP then k1 else A k j := by
  unfold addPerson
  rw [swv, if_neg (by omega), swv, swv, swv, swv]
theorem BI.person {A S : St} {nP : Nat} {z1 x1 f1 s1 : Int32} (h : BI A S) (hP : A 12 1 = nI nP) (hP5 : nP ≤ 5) : BI (tellPersonS A nP (kindOfS z1) x1 f1 s1) (tellPersonS S nP (kindOfS z1) x1 f1 s1) := by
  unfold tellPersonS
  by_cases hc : okPerson nP (kindOfS z1) x1 f1 s1 = 1
  · rw [if_pos hc, if_pos hc]
    obtain ⟨n2, nL, o, t, c, u, a1, a2, a3, a4, a5, a6, a7, a8, a9, b1, b2, b3, b4⟩ := h
    have e2 : n2 = nP := (nI_eq (by omega) (by omega)).mp (a1.symm.trans hP)
    subst e2
    have hp5 := okPe_lt hP5 hc
    unfold okPerson at hc
    by_cases h1 : kindOfS z1 < 0
    · rw [if_pos h1] at hc
      exact absurd hc (by decide)
    · rw [if_neg h1] at hc
      obtain ⟨kd, hkd, ekd⟩ := kd_nat h1
      by_cases h2 : isPlaceS x1 = 0
      · rw [if_pos h2] at hc
        exact absurd hc (by decide)
      · rw [if_neg h2] at hc
        obtain ⟨p, hp, rfl⟩ := isPlace_of h2
        by_cases h3 : f1 < 1
        · rw [if_pos h3] at hc
          exact absurd hc (by decide)
        · rw [if_neg h3] at hc
          by_cases h4 : f1 ≤ 5
          · rw [if_pos h4] at hc
            by_cases h5 : s1 < 0
            · rw [if_pos h5] at hc
              exact absurd hc (by decide)
            · obtain ⟨s, hs, rfl⟩ := nI_of h5
              have hr : ∀ k, (k < 7 ∨ 11 ≤ k) → k ≠ 12 → addPerson A n2 (kindOfS z1) (nI p) f1 (nI s) k = A k := fun k h1 h2 => per_row A n2 _ _ _ _ h1 h2
              have w12 : ∀ B : St, addPerson B n2 (kindOfS z1) (nI p) f1 (nI s) 12 1 = nI (n2 + 1) := fun B => by
                unfold addPerson
                rw [swv, if_pos ⟨rfl, rfl⟩]
              refine ⟨n2 + 1, nL, o, t, c, u, w12 A, by omega, by rw [per_12 A n2 _ _ _ _ (by decide)]; exact a3, a4, a5.cong (hr 2 (by omega) (by decide)) (hr 3 (by omega) (by decide)) (hr 5 (by omega) (by decide)), a6, by rw [hr 4 (by omega) (by decide), hr 6 (by omega) (by decide)]; exact a7, fun r hr2 => ?_, by rw [hr 0 (by omega) (by decide), hr 1 (by omega) (by decide)]; exact a9, by rw [hr 11 (by omega) (by decide)]; exact b1, b2, by rw [hr 11 (by omega) (by decide)]; exact b3, ?_⟩
              · rw [per_in A n2 _ _ _ _ 7 r (by decide), per_in A n2 _ _ _ _ 8 r (by decide), per_in A n2 _ _ _ _ 10 r (by decide)]
                by_cases e : r = n2
                · subst e
                  rw [if_neg (by omega), if_neg (by omega), if_neg (by omega), if_pos ⟨rfl, rfl⟩, if_neg (by omega), if_neg (by omega), if_pos ⟨rfl, rfl⟩, if_pos ⟨rfl, rfl⟩]
                  exact ⟨⟨kd, hkd, ekd⟩, ⟨p, hp, rfl⟩, s, hs, rfl⟩
                · rw [if_neg (by omega), if_neg (by omega), if_neg (by omega), if_neg (by omega), if_neg (by omega), if_neg (by omega), if_neg (by omega), if_neg (by omega), if_neg (by omega), if_neg (by omega), if_neg (by omega), if_neg (by omega)]
                  exact a8 r (by omega)
              · refine ⟨fun k hk => ?_, fun k k1 k2 g hg => ?_, fun j hj => ?_⟩
                · funext j
                  rw [per_in A n2 _ _ _ _ k j (by omega), per_in S n2 _ _ _ _ k j (by omega), b4.1 k hk]
                · rw [hr k (by omega) (by omega), per_row S n2 _ _ _ _ (by omega) (by omega)]
                  exact b4.2.1 k k1 k2 g hg
                · by_cases e : j = 1
                  · subst e
                    rw [w12, w12]
                  · rw [per_12 A n2 _ _ _ _ e, per_12 S n2 _ _ _ _ e]
                    exact b4.2.2 j hj
          · rw [if_neg h4] at hc
            exact absurd hc (by decide)
  · rw [if_neg hc, if_neg hc]
    exact h
theorem dg_9 (T : St) (nT k : Nat) : ¬ 9 < dg T nT k := by
  rcases dg_r T nT k with e | ⟨d, hd, e⟩
  · rw [e]
    decide
  · rw [e]
    exact nI_nlt (a := 9) (b := d) hd (by omega)
theorem BI.st {A S : St} {T : St} {nT k : Nat} (h : BI A S) : stO T nT S k = stO T nT A k ∧ BI (stS T nT A k) (stS T nT S k) := by
  have h0 := h
  obtain ⟨nP, nL, o, t, c, u, hB⟩ := h
  have e0 : S 12 0 = A 12 0 := hB.E.2.2 0 (by decide)
  have e1 : S 12 1 = A 12 1 := hB.E.2.2 1 (by decide)
  have hL : cl (A 12 0) = nL := by rw [hB.2.2.1]; exact nI_clamp (by have := hB.2.2.2.1; omega)
  have hP : cl (A 12 1) = nP := by rw [hB.1]; exact nI_clamp (by have := hB.2.1; omega)
  unfold stO stS
  rw [e0, e1]
  refine ⟨rfl, ?_⟩
  repeat' split
  · exact h0.leak
  · rw [hL]
    exact h0.lock hB.2.2.1 hB.2.2.2.1 (dg_9 _ _ _) (dg_9 _ _ _)
  · rw [hP]
    exact h0.person hB.1 hB.2.1
  · exact h0.air
  · exact h0.suits
  · exact h0
theorem BI.MB {A S : St} (h : BI A S) : MB A ∧ MB S := by
  obtain ⟨nP, nL, o, t, c, u, hB⟩ := h
  exact ⟨MB.of hB.1 hB.2.1 hB.2.2.1 hB.2.2.2.1, MB.of ((hB.E.2.2 1 (by decide)).trans hB.1) hB.2.1 ((hB.E.2.2 0 (by decide)).trans hB.2.2.1) hB.2.2.2.1⟩
theorem rd_rel {T A0 S0 : St} {nT : Nat} (h0 : BI A0 S0) : ∀ r k A S, BI A S → (rdL T nT S0 r k S).1 = (rdL T nT A0 r k A).1 ∧ BI (rdL T nT A0 r k A).2 (rdL T nT S0 r k S).2
  | 0, _, _, _, h => ⟨rfl, h⟩
  | r + 1, k, A, S, h => by
    obtain ⟨e, h1⟩ := h.st (T := T) (nT := nT) (k := k)
    rw [rdL, rdL, e]
    by_cases c1 : nI nT ≤ nI k
    · rw [if_pos c1, if_pos c1]
      exact ⟨rfl, h⟩
    · rw [if_neg c1, if_neg c1]
      by_cases c2 : stO T nT A k = 0
      · rw [if_neg (fun q => q c2), if_neg (fun q => q c2)]
        exact ⟨rfl, h0⟩
      · rw [if_pos c2, if_pos c2]
        exact rd_rel h0 r _ _ _ h1
theorem rd_fix {T S0 : St} {nT : Nat} : ∀ r k S, MB S → Fix S0 S → Fix S0 (rdL T nT S0 r k S).2
  | 0, _, _, _, h => h
  | r + 1, k, S, hM, h => by
    rw [rdL]
    split
    · exact h
    · split
      · exact rd_fix r _ _ hM.st (h.st hM)
      · exact Fix.rf
theorem e_burrow {Sn Sk T U S : St} {nT : Nat} (h : Rel Sn Sk T U S) (hT : TI T S nT) : RelX (xf_burrow Sn Sk T U nT) (mf_burrow S nT) := by
  have hs : ∀ k, sg (TM S) nT k = sg T nT k := sgT (fun j hj => hT.2.2.2.1 j hj)
  obtain ⟨hBI, -, ⟨nR, r1, r2, r3, r4⟩, g4, g5, g6⟩ := h
  have hrel : ∀ A W : St, BI A W → Fix S W → Rel A Sk (sw T 1 0 0) U (sw W 12 4 0) := by
    intro A W hW hF
    obtain ⟨nP, nL, o, t, c, u, hB⟩ := hW
    have hE := hB.E
    have h12 : ∀ j, j ≠ 4 → sw W 12 4 0 12 j = W 12 j := fun j hj => by rw [swv, if_neg (fun q => hj q.2)]
    have hk : ∀ k, k ≠ 12 → sw W 12 4 0 k = W k := fun k hk => sw_ne _ _ _ hk
    refine ⟨⟨nP, nL, o, t, c, u, hB.eqS ⟨fun k h1 => by rw [hk k (by omega)]; exact hE.1 k h1, fun k k1 k2 g hg => by rw [hk k (by omega)]; exact hE.2.1 k k1 k2 g hg, fun i hi => by rw [h12 i (by omega)]; exact hE.2.2 i hi⟩⟩, ⟨0, ?_, by omega, ?_, fun j hj => absurd hj (Nat.not_lt_zero _), fun j hj => absurd hj (Nat.not_lt_zero _)⟩, ⟨nR, r1, r2, ?_, ?_⟩, ?_, ?_, fun hne => ?_⟩
    · rw [swv, if_pos ⟨rfl, rfl⟩]
      rfl
    · rw [swv, if_pos ⟨rfl, rfl⟩]
      rfl
    · rw [h12 6 (by decide), hF.2.1 6 (by decide)]
      exact r3
    · rw [hk 15 (by decide), hF.1 15 (by decide)]
      exact r4
    · rw [hk 16 (by decide), hF.1 16 (by decide)]
      exact g4
    · rw [h12 7 (by decide), hF.2.1 7 (by decide)]
      exact g5
    · rw [hk 17 (by decide), hF.1 17 (by decide)]
      exact g6 hne
  obtain ⟨q1, q2⟩ := rd_rel (T := T) (nT := nT) hBI 96 0 Sn S hBI
  have q3 := rd_fix (T := T) (S0 := S) (nT := nT) 96 0 S hBI.MB.2 Fix.rf
  unfold xf_burrow mf_burrow xf_read
  rw [mfT hs, rdLT hs]
  by_cases hm : mf T nT < 0
  · rw [if_pos hm, if_pos hm]
    exact RelX_mk q1 (hrel _ _ q2 q3)
  · rw [if_neg hm, if_neg hm]
    exact RelX_mk rfl (hrel _ _ hBI Fix.rf)
