/-! the two sides, side by side: what is asked -/
theorem cnt_eq9 {A S : St} {nL : Nat} (hE : Eq9 nL A S) (r : Int32) (n : Nat) : cnt (S 8) r n = cnt (A 8) r n := by rw [hE.1 8 (by omega)]
theorem mbs_eq9 {A S : St} {nP nL j : Nat} (hV : Vd A nP) (hE : Eq9 nL A S) (hj : j < 6) : mbs S nP (nI j) nP = breathInS A nP (nI j) := by
  rw [mbs_eq (hV.eq9 hE) hj nP (Nat.le_refl _)]
  exact bin_cong (hE.1 7 (by omega)) (hE.1 8 (by omega)) (nI j)
theorem mb_eq {S : St} {nP p : Nat} (hV : Vd S nP) (hp : p < nP) : mb S nP p = if isRoomS (S 8 p) = 0 then 0 else bk (S 7 p) (al (cnt (S 8) (S 8 p) nP)) := by
  obtain ⟨⟨k, hk, ek⟩, ⟨z, hz, ez⟩, -⟩ := hV p hp
  unfold mb
  by_cases h6 : z = 6
  · have e1 : S 8 p = 6 := by rw [ez, h6]; rfl
    rw [if_neg (fun q => q e1), e1]
    rfl
  · have h1 : ¬ S 8 p = 6 := by
      rw [ez]
      intro q
      have := (nI_eq (a := z) (b := 6) (by omega) (by omega)).mp q
      omega
    have h2 : ¬ isRoomS (S 8 p) = 0 := by
      rw [ez, isRoom_yes (by omega)]
      decide
    rw [if_pos h1, if_neg h2, ek]
    exact kind_bk k hk _
theorem hasL_eq {A S : St} {nL : Nat} (hE : Eq9 nL A S) (x9 : Int32) : hasLockS S x9 = hasLockS A x9 := by
  unfold hasLockS
  rw [hE.2.2 0 (by decide)]
theorem hasP_eq {A S : St} {nL : Nat} (hE : Eq9 nL A S) (x9 : Int32) : hasPersonS S x9 = hasPersonS A x9 := by
  unfold hasPersonS
  rw [hE.2.2 1 (by decide)]
theorem leB_eq {A S : St} {nP nL : Nat} (hE : Eq9 nL A S) : leastBareS S nP = leastBareS A nP := by
  have key : ∀ all n, lbS S nP all n = lbS A nP all n := by
    intro all n
    induction n with
    | zero => rfl
    | succ n ih => rw [lbS, lbS, ih, enough_cong (hE.1 9 (by omega)) (hE.1 11 (by omega))]
  exact key _ _
theorem outL_eq {A S : St} {nP nL : Nat} (hE : Eq9 nL A S) : ∀ r n, outL nP S r n = outL nP A r n
  | 0, _ => rfl
  | r + 1, n => by rw [outL, outL, (Eq9.lvS (hE.live (n - 1))).1, outL_eq hE r (n + 1)]
theorem smI_eq {f g : Nat → Int32} (h : f = g) (n : Nat) : smI f n = smI g n := by rw [h]
/-- the air behind so many minutes, both ways -/
theorem air_eq {A : St} {nP j n : Nat} (hP5 : nP ≤ 5) (hV : Vd A nP) (hA : Va A) (hj : j < 6) (hn : n ≤ 99) {b : Nat} (hb : b ≤ 9) : airBehindS A nP j (nI b) (nI n) = nI (cl (A 0 j) - n * (b + cl (breathInS A nP (nI j)))) := by
  obtain ⟨⟨a, ha, e1⟩, -⟩ := hA j hj
  obtain ⟨g, hg, e3⟩ := breath_nat hP5 hV (nI j)
  have h1 : n * (b + g) ≤ 99 * 29 := Nat.mul_le_mul hn (by omega)
  unfold airBehindS
  rw [e1, e3, show cl (nI a) = a from nI_clamp (by omega), show cl (nI g) = g from nI_clamp (by omega), nI_add, pk_mul, mx_0 (by omega) (by omega)]
theorem live_air {A : St} {nP j n : Nat} (hP5 : nP ≤ 5) (hV : Vd A nP) (hA : Va A) (hj : j < 6) (hn : n ≤ 99) : liveN nP A n 0 j = airBehindS A nP j (A 1 j) (nI n) := by
  obtain ⟨⟨a, ha, e1⟩, b, hb, e2⟩ := hA j hj
  obtain ⟨g, hg, e3⟩ := breath_nat hP5 hV (nI j)
  rw [air_n hj e1 ha e2 hb e3 hg n, e2, air_eq hP5 hV hA hj hn hb, e1, e3, show cl (nI a) = a from nI_clamp (by omega), show cl (nI g) = g from nI_clamp (by omega)]
/-- were a room's leak another -/
theorem live_leak {A : St} {nP j r v n : Nat} (hP5 : nP ≤ 5) (hV : Vd A nP) (hA : Va A) (hj : j < 6) (hr : r < 6) (hn : n ≤ 99) (hv : v ≤ 9) : liveN nP (sw A 1 r (nI v)) n 0 j = airBehindS A nP j (if j = r then nI v else A 1 j) (nI n) := by
  have hV2 : Vd (sw A 1 r (nI v)) nP := hV.cong (sw_ne _ _ _ (by decide)) (sw_ne _ _ _ (by decide)) (sw_ne _ _ _ (by decide))
  have hA2 : Va (sw A 1 r (nI v)) := fun i hi => by
    rw [sw_ne _ _ _ (show (0 : Nat) ≠ 1 by decide), swv]
    refine ⟨(hA i hi).1, ?_⟩
    split
    · exact ⟨v, hv, rfl⟩
    · exact (hA i hi).2
  rw [live_air hP5 hV2 hA2 hj hn, swv]
  unfold airBehindS
  rw [sw_ne _ _ _ (show (0 : Nat) ≠ 1 by decide), bin_cong (S := sw A 1 r (nI v)) (S' := A) (sw_ne _ _ _ (by decide)) (sw_ne _ _ _ (by decide))]
  by_cases e : j = r
  · rw [if_pos ⟨rfl, e⟩, if_pos e]
  · rw [if_neg (fun q => e q.2), if_neg e]
/-! gauges -/
theorem at_01 (Sn U : St) (nP j : Nat) (v n : Int32) : atS Sn U nP j v n = 0 ∨ atS Sn U nP j v n = 1 := by
  unfold atS
  split
  · exact Or.inl rfl
  · exact Or.inr rfl
/-- rooms unlike, as a number -/
def rn (Sn U : St) (nP : Nat) (n : Int32) : Nat → Nat
  | 0 => 0
  | j + 1 => if ¬ atS Sn U nP j (Sn 1 j) n = 0 then rn Sn U nP n j else rn Sn U nP n j + 1
theorem rn_le (Sn U : St) (nP : Nat) (n : Int32) : ∀ j, rn Sn U nP n j ≤ j
  | 0 => Nat.le_refl _
  | j + 1 => by
    have := rn_le Sn U nP n j
    rw [rn]
    split <;> omega
theorem ru_rn (Sn U : St) (nP : Nat) (n : Int32) : ∀ j, ruS Sn U nP n j = nI (rn Sn U nP n j)
  | 0 => rfl
  | j + 1 => by
    rw [ruS, rn, ru_rn Sn U nP n j]
    split
    · rfl
    · exact nI_1 _
theorem rn_0 (Sn U : St) (nP : Nat) (n : Int32) : ∀ m, rn Sn U nP n m = 0 ↔ ∀ j, j < m → ¬ atS Sn U nP j (Sn 1 j) n = 0
  | 0 => ⟨fun _ j hj => absurd hj (Nat.not_lt_zero _), fun _ => rfl⟩
  | m + 1 => by
    have ih := rn_0 Sn U nP n m
    rw [rn]
    by_cases h : atS Sn U nP m (Sn 1 m) n = 0
    · rw [if_neg (fun q => q h)]
      exact ⟨fun q => by omega, fun q => absurd h (q m (by omega))⟩
    · rw [if_pos h, ih]
      constructor
      · intro q j hj
        by_cases e : j = m
        · rw [e]; exact h
        · exact q j (by omega)
      · exact fun q j hj => q j (by omega)
/-- all but one are as told, as many as are unlike say so -/
theorem rn_one (Sn U : St) (nP : Nat) (n : Int32) (r : Nat) : ∀ m, r < m → (rn Sn U nP n m = (if atS Sn U nP r (Sn 1 r) n = 0 then 1 else 0) ↔ ∀ j, j < m → j ≠ r → ¬ atS Sn U nP j (Sn 1 j) n = 0)
  | 0, h => absurd h (Nat.not_lt_zero _)
  | m + 1, h => by
    rw [rn]
    by_cases e : r = m
    · subst e
      have h0 := rn_0 Sn U nP n r
      have hx : (∀ j, j < r + 1 → j ≠ r → ¬ atS Sn U nP j (Sn 1 j) n = 0) ↔ ∀ j, j < r → ¬ atS Sn U nP j (Sn 1 j) n = 0 := ⟨fun q j hj => q j (by omega) (by omega), fun q j hj hne => q j (by omega)⟩
      rw [hx, ← h0]
      by_cases hc : atS Sn U nP r (Sn 1 r) n = 0
      · rw [if_neg (fun q => q hc), if_pos hc]
        omega
      · rw [if_pos hc, if_neg hc]
    · have ih := rn_one Sn U nP n r m (by omega)
      have hx : (∀ j, j < m + 1 → j ≠ r → ¬ atS Sn U nP j (Sn 1 j) n = 0) ↔ (¬ atS Sn U nP m (Sn 1 m) n = 0) ∧ ∀ j, j < m → j ≠ r → ¬ atS Sn U nP j (Sn 1 j) n = 0 := by
        constructor
        · exact fun q => ⟨q m (by omega) (fun q2 => e q2.symm), fun j hj hne => q j (by omega) hne⟩
        · rintro ⟨q1, q2⟩ j hj hne
          by_cases e2 : j = m
          · rw [e2]; exact q1
          · exact q2 j (by omega) hne
      rw [hx, ← ih]
      by_cases hc : atS Sn U nP m (Sn 1 m) n = 0
      · rw [if_neg (fun q => q hc)]
        constructor
        · intro q
          have h1 : rn Sn U nP n m = 0 ∨ True := Or.inr trivial
          exfalso
          by_cases hr : atS Sn U nP r (Sn 1 r) n = 0
          · rw [if_pos hr] at q
            have h2 : rn Sn U nP n m = 0 := by omega
            exact ((rn_0 Sn U nP n m).mp h2 r (by omega)) hr
          · rw [if_neg hr] at q
            omega
        · exact fun q => absurd hc q.1
      · rw [if_pos hc]
        exact ⟨fun q => ⟨hc, q⟩, fun q => q.2⟩
theorem iso_iff (S : St) (nP n : Nat) : ∀ m, isoF S nP n m = 0 ↔ ¬ ∀ r, r < m → liveN nP S n 0 r = S 15 r
  | 0 => ⟨fun q => absurd (show (1 : Int32) = 0 from q) (by decide), fun q => absurd (fun r hr => absurd hr (Nat.not_lt_zero _)) q⟩
  | m + 1 => by
    have ih := iso_iff S nP n m
    rw [isoF]
    by_cases h : liveN nP S n 0 m = S 15 m
    · rw [if_pos h, ih]
      constructor
      · exact fun q q2 => q (fun r hr => q2 r (by omega))
      · exact fun q q2 => q (fun r hr => by
          by_cases e : r = m
          · rw [e]; exact h
          · exact q2 r (by omega))
    · rw [if_neg h]
      exact ⟨fun _ q => h (q m (by omega)), fun _ => rfl⟩
/-- both sides ask the same of a room and a leak -/
theorem gz_wm {A S U : St} {nP nL r v n : Nat} (hP5 : nP ≤ 5) (hV : Vd A nP) (hA : Va A) (hE : Eq9 nL A S) (h15 : S 15 = U 1) (hr : r < 6) (hv : v ≤ 9) (hn : n ≤ 99) : gz S nP n r v = 0 ↔ wmS A U nP r (nI v) (nI n) (ruS A U nP (nI n) 6) = 0 := by
  have e1 : S 1 r = A 1 r := by rw [hE.1 1 (by omega)]
  unfold gz wmS
  rw [e1]
  by_cases h1 : nI v = A 1 r
  · rw [if_pos h1, if_pos h1.symm]
  · rw [if_neg h1, if_neg (fun q => h1 q.symm)]
    have hEs : Eq9 0 (sw A 1 r (nI v)) (sw S 1 r (nI v)) := by
      refine ⟨fun k hk => ?_, fun k _ _ g hg => by omega, fun i hi => ?_⟩
      · funext i
        rw [swv, swv, hE.1 k hk]
      · rw [swv, swv, hE.2.2 i hi]
    have e15 : ∀ j, sw S 1 r (nI v) 15 j = U 1 j := fun j => by rw [sw_ne _ _ _ (by decide), h15]
    have hl : ∀ j, j < 6 → (liveN nP (sw S 1 r (nI v)) n 0 j = sw S 1 r (nI v) 15 j ↔ airBehindS A nP j (if j = r then nI v else A 1 j) (nI n) = U 1 j) := fun j hj => by
      rw [(hEs.live n).1 0 (by omega), live_leak hP5 hV hA hj hr hn hv, e15]
    have hat : ∀ j (w : Int32), (¬ atS A U nP j w (nI n) = 0 ↔ airBehindS A nP j w (nI n) = U 1 j) := fun j w => by
      unfold atS
      by_cases h : airBehindS A nP j w (nI n) = U 1 j
      · rw [if_neg (fun q => q h)]
        exact ⟨fun _ => h, fun _ => by decide⟩
      · rw [if_pos h]
        exact ⟨fun q => absurd rfl q, fun q => absurd q h⟩
    have hu := rn_one A U nP (nI n) r 6 hr
    have hle := rn_le A U nP (nI n) 6
    rw [iso_iff, ru_rn]
    have hsplit : (∀ j, j < 6 → liveN nP (sw S 1 r (nI v)) n 0 j = sw S 1 r (nI v) 15 j) ↔ (¬ atS A U nP r (nI v) (nI n) = 0) ∧ ∀ j, j < 6 → j ≠ r → ¬ atS A U nP j (A 1 j) (nI n) = 0 := by
      constructor
      · intro q
        refine ⟨?_, fun j hj hne => ?_⟩
        · have := (hl r hr).mp (q r hr)
          rw [if_pos rfl] at this
          exact (hat r (nI v)).mpr this
        · have := (hl j hj).mp (q j hj)
          rw [if_neg hne] at this
          exact (hat j (A 1 j)).mpr this
      · rintro ⟨q1, q2⟩ j hj
        refine (hl j hj).mpr ?_
        by_cases e : j = r
        · rw [if_pos e, e]
          exact (hat r (nI v)).mp q1
        · rw [if_neg e]
          exact (hat j (A 1 j)).mp (q2 j hj e)
    rw [hsplit, ← hu]
    by_cases hc : atS A U nP r (nI v) (nI n) = 0
    · rw [if_neg (show ¬ ¬ atS A U nP r (nI v) (nI n) = 0 from fun q => q hc)]
      exact ⟨fun _ => rfl, fun _ q => q.1 hc⟩
    · rw [if_pos hc]
      by_cases h0 : atS A U nP r (A 1 r) (nI n) = 0
      · rw [if_pos h0, if_pos h0]
        by_cases e : rn A U nP (nI n) 6 = 1
        · rw [e, if_neg (fun q => q rfl)]
          exact ⟨fun q => absurd ⟨hc, rfl⟩ q, fun q => absurd q (by decide)⟩
        · have : ¬ nI (rn A U nP (nI n) 6) = 1 := fun q => e ((nI_eq (b := 1) (by omega) (by omega)).mp q)
          rw [if_pos this]
          exact ⟨fun _ => rfl, fun _ q => e q.2⟩
      · rw [if_neg h0, if_neg h0]
        by_cases e : rn A U nP (nI n) 6 = 0
        · rw [e, if_neg (fun q => q rfl)]
          exact ⟨fun q => absurd ⟨hc, rfl⟩ q, fun q => absurd q (by decide)⟩
        · have : ¬ nI (rn A U nP (nI n) 6) = 0 := fun q => e ((nI_eq (b := 0) (by omega) (by omega)).mp q)
          rw [if_pos this]
          exact ⟨fun _ => rfl, fun _ q => e q.2⟩
theorem gm_wl {A S U : St} {nP nL n : Nat} (hP5 : nP ≤ 5) (hV : Vd A nP) (hA : Va A) (hE : Eq9 nL A S) (h15 : S 15 = U 1) (hn : n ≤ 99) : ∀ j, j ≤ 6 → gmO S nP n j = wlO A U nP (nI n) (ruS A U nP (nI n) 6) j
  | 0, _ => rfl
  | j + 1, hj => by
    have ih := gm_wl hP5 hV hA hE h15 hn j (by omega)
    rw [gmO, wlO, ih]
    have key : ∀ k v, v ≤ 10 → gmI S nP n j k v = wlI A U nP j (nI n) (ruS A U nP (nI n) 6) k v := by
      intro k v
      induction v with
      | zero => exact fun _ => rfl
      | succ v ihv =>
        intro hv
        have hg := gz_wm (r := j) (v := v) hP5 hV hA hE h15 (by omega) (by omega) hn
        rw [gmI, wlI, ihv (by omega)]
        by_cases h : gz S nP n j v = 0
        · rw [if_pos h, if_pos (hg.mp h)]
        · rw [if_neg h, if_neg (fun q => h (hg.mpr q))]
    exact key _ 10 (Nat.le_refl _)
/-- the first, from the front, is the first, kept -/
theorem gf_keep {S : St} {nP n j : Nat} {e : Int32} (he : ¬ e = -9) : ∀ v, gfI S nP n j e v = e
  | 0 => rfl
  | v + 1 => by
    rw [gfI, gf_keep he v, if_neg he]
    split <;> rfl
theorem gfO_keep {S : St} {nP n : Nat} {m : Nat} (he : ¬ gfO S nP n m = -9) : ∀ d, gfO S nP n (m + d) = gfO S nP n m
  | 0 => rfl
  | d + 1 => by
    show gfI S nP n (m + d) (gfO S nP n (m + d)) 10 = _
    rw [gfO_keep he d]
    exact gf_keep he 10
theorem ne_9 {j v : Nat} (hj : j < 6) (hv : v ≤ 9) : ¬ nI (10 * j + v) = -9 := fun q => by
  have h : ¬ nI (10 * j + v) < 0 := nI_pos (by omega)
  rw [q] at h
  exact h (by decide)
theorem gfI_front {A S U : St} {nP nL n j : Nat} (hP5 : nP ≤ 5) (hV : Vd A nP) (hA : Va A) (hE : Eq9 nL A S) (h15 : S 15 = U 1) (hn : n ≤ 99) (hj : j < 6) (e : Int32) : ∀ d v, v + d = 10 → gfI S nP n j (-9) v = -9 → (if gfI S nP n j (-9) 10 = -9 then e else gfI S nP n j (-9) 10) = flI A U nP j (nI n) (ruS A U nP (nI n) 6) e d v
  | 0, v, hv, h => by
    obtain rfl : v = 10 := by omega
    rw [if_pos h]
    rfl
  | d + 1, v, hv, h => by
    have hg := gz_wm (r := j) (v := v) hP5 hV hA hE h15 hj (by omega) hn
    rw [flI]
    by_cases hz : gz S nP n j v = 0
    · rw [if_pos (hg.mp hz)]
      refine gfI_front hP5 hV hA hE h15 hn hj e d (v + 1) (by omega) ?_
      rw [gfI, if_pos hz]
      exact h
    · rw [if_neg (fun q => hz (hg.mpr q))]
      have h1 : gfI S nP n j (-9) (v + 1) = nI (10 * j + v) := by
        rw [gfI, if_neg hz, if_pos h]
      have h2 : ∀ m, gfI S nP n j (-9) (v + 1 + m) = nI (10 * j + v) := by
        intro m
        induction m with
        | zero => exact h1
        | succ m ih =>
          show gfI S nP n j (-9) (v + 1 + m + 1) = _
          rw [gfI, ih, if_neg (ne_9 hj (by omega))]
          split <;> rfl
      have h3 := h2 (10 - (v + 1))
      rw [show v + 1 + (10 - (v + 1)) = 10 by omega] at h3
      rw [h3, if_neg (ne_9 hj (by omega))]
theorem gf_fl {A S U : St} {nP nL n : Nat} (hP5 : nP ≤ 5) (hV : Vd A nP) (hA : Va A) (hE : Eq9 nL A S) (h15 : S 15 = U 1) (hn : n ≤ 99) : ∀ d j, j + d = 6 → gfO S nP n j = -9 → gfO S nP n 6 = flO A U nP (nI n) (ruS A U nP (nI n) 6) d j
  | 0, j, hj, h => by
    obtain rfl : j = 6 := by omega
    rw [h]
    rfl
  | d + 1, j, hj, h => by
    have hf := gfI_front (U := U) hP5 hV hA hE h15 hn (j := j) (by omega) (flO A U nP (nI n) (ruS A U nP (nI n) 6) d (j + 1)) 10 0 rfl rfl
    rw [flO, ← hf]
    have e1 : gfO S nP n (j + 1) = gfI S nP n j (-9) 10 := by
      show gfI S nP n j (gfO S nP n j) 10 = _
      rw [h]
    by_cases hz : gfI S nP n j (-9) 10 = -9
    · rw [if_pos hz]
      exact gf_fl hP5 hV hA hE h15 hn d (j + 1) (by omega) (e1.trans hz)
    · rw [if_neg hz, ← e1]
      have := gfO_keep (S := S) (nP := nP) (n := n) (m := j + 1) (by rw [e1]; exact hz) d
      rw [show j + 1 + d = 6 by omega] at this
      exact this
theorem iso_ru {A S U : St} {nP nL n : Nat} (hP5 : nP ≤ 5) (hV : Vd A nP) (hA : Va A) (hE : Eq9 nL A S) (h15 : S 15 = U 1) (hn : n ≤ 99) : isoF S nP n 6 = 0 ↔ ¬ ruS A U nP (nI n) 6 = 0 := by
  have hle := rn_le A U nP (nI n) 6
  rw [iso_iff, ru_rn]
  have h0 := rn_0 A U nP (nI n) 6
  have hx : (∀ r, r < 6 → liveN nP S n 0 r = S 15 r) ↔ ∀ j, j < 6 → ¬ atS A U nP j (A 1 j) (nI n) = 0 := by
    have hl : ∀ j, j < 6 → (liveN nP S n 0 j = S 15 j ↔ ¬ atS A U nP j (A 1 j) (nI n) = 0) := fun j hj => by
      rw [(hE.live n).1 0 (by omega), live_air hP5 hV hA hj hn, h15]
      unfold atS
      by_cases h : airBehindS A nP j (A 1 j) (nI n) = U 1 j
      · rw [if_neg (fun q => q h)]
        exact ⟨fun _ => by decide, fun _ => h⟩
      · rw [if_pos h]
        exact ⟨fun q => absurd q h, fun q => absurd rfl q⟩
    exact ⟨fun q j hj => (hl j hj).mp (q j hj), fun q j hj => (hl j hj).mpr (q j hj)⟩
  rw [hx, ← h0]
  have e : nI (rn A U nP (nI n) 6) = 0 ↔ rn A U nP (nI n) 6 = 0 := nI_eq (b := 0) (by omega) (by omega)
  rw [e]
/-! told passings -/
theorem ptL_told {U V : St} (h : U 1 = V 1) (nP : Nat) : ∀ r i S, ptL U nP r i S = ptL V nP r i S
  | 0, _, _ => rfl
  | r + 1, i, S => by
    rw [ptL, ptL, h]
    split
    · rfl
    · exact ptL_told h nP r (i + 1) _
