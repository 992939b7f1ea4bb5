/-! the Model: the letters become a burrow -/
theorem rd_zero (S : St) : sw S 12 5 0 = rdS S (S 14) 0 := by
  apply st_ext
  intro k j
  unfold rdS
  rw [swv, swv]
  split
  · rfl
  · by_cases e : k = 14
    · subst e
      rw [sr_eq]
    · rw [sr_ne _ _ e]
theorem m1_nI {n : Nat} (h : n < 2 ^ 30) : (-1 - nI n).toInt = -1 - (n : Int) := by
  rw [Int32.toInt_sub, nI_toInt (by omega), show (-1 : Int32).toInt = -1 from by decide, Int.bmod_eq_of_le (by omega) (by omega)]
theorem m1_neg {n : Nat} (h : n < 2 ^ 30) : ¬ (0 : Int32) ≤ -1 - nI n := by
  rw [Int32.le_iff_toInt_le, m1_nI h]
  have e0 : (0 : Int32).toInt = 0 := by decide
  omega
theorem m1_back (x : Int32) : -1 - (-1 - x) = x := by
  rw [Int32.sub_eq_add_neg, Int32.neg_sub, Int32.sub_eq_add_neg, show -1 + (x + -(-1 : Int32)) = x + (-1 + -(-1)) by ac_rfl, Int32.add_right_neg, Int32.add_zero]
/-- the first reading: what is so at a statement's beginning -/
def H1 (S : St) (nT i a : Nat) : Prop := mfL (TM S) nT (96 - i) a = mf (TM S) nT ∧ 4 * i ≤ a ∧ a ≤ nT
theorem H1.no {S : St} {nT i a a1 : Nat} (h : H1 S nT i a) (hi : i < 30) (ha : a1 ≤ nT) (hN : nT ≤ 96) (hb : bs (TM S) nT a = -1 - nI a1) : mf (TM S) nT = nI a1 := by
  rw [← h.1, show 96 - i = (96 - (i + 1)) + 1 by omega, mfL, hb, if_neg (m1_neg (by omega)), m1_back]
theorem fin_yes {T : St} {nT a : Nat} (h : sg T nT a = 59) : fin T nT a = nI (a + 1) := if_pos h
theorem fin_no {T : St} {nT a : Nat} (h : ¬ sg T nT a = 59) : fin T nT a = -1 - nI a := if_neg h
theorem H1.go {S : St} {nT i a a1 : Nat} (h : H1 S nT i a) (hi : i < 30) (hN : nT ≤ 96) (hb : bs (TM S) nT a = nI (a1 + 1)) (hk : a + 3 ≤ a1) (hlt : a1 + 1 < nT) : H1 S nT (i + 1) (a1 + 1) := by
  refine ⟨?_, by have := h.2.1; omega, by omega⟩
  have h1 := h.1
  rw [show 96 - i = (96 - (i + 1)) + 1 by omega, mfL, hb, if_pos (nI_pos' (by omega)), if_pos (nI_lt hlt (by omega)), show cl (nI (a1 + 1)) = a1 + 1 from nI_clamp (by omega)] at h1
  exact h1
theorem H1.end_ {S : St} {nT i a a1 : Nat} (h : H1 S nT i a) (hi : i < 30) (hN : nT ≤ 96) (hb : bs (TM S) nT a = nI (a1 + 1)) (he : a1 + 1 = nT) : mf (TM S) nT = -1 := by
  rw [← h.1, show 96 - i = (96 - (i + 1)) + 1 by omega, mfL, hb, if_pos (nI_pos' (by omega)), if_neg (nI_nlt (by omega) (by omega))]
def mf_burrow (S : St) (nT : Nat) : Int32 × St := if mf (TM S) nT < 0 then ((rdL (TM S) nT S 96 0 S).1, sw (rdL (TM S) nT S 96 0 S).2 12 4 0) else (-1000 - mf (TM S) nT, sw S 12 4 0)
theorem scr_rd {nL : Nat} {S : St} {f g : Nat → Int32} {a : Nat} : Scr nL (sw S 12 4 0) (sw (rdS (sr S 18 f) g a) 12 4 0) := fun k h14 h18 _ _ _ j h5 _ => by
  rw [swv, swv]
  split
  · rfl
  · unfold rdS
    rw [swv, if_neg h5, sr_ne _ _ h14, sr_ne _ _ h18]
theorem scr_rd0 {nL : Nat} {S : St} {g : Nat → Int32} {a : Nat} : Scr nL (sw S 12 4 0) (sw (rdS S g a) 12 4 0) := fun k h14 h18 _ _ _ j h5 _ => by
  rw [swv, swv]
  split
  · rfl
  · unfold rdS
    rw [swv, if_neg h5, sr_ne _ _ h14]
theorem bur_no {Z : ZZ} {h : Nat} {q : Nat → Nat} {S : St} {nT a : Nat} {g : Nat → Int32} (ha : a < 2 ^ 31) (hm : mf (TM S) nT = nI a) : MIq Z h q 8 (mf_burrow S nT) (some (.int (-1000 - nI a))) (wM Z h q (sw (rdS S g a) 12 4 0)) := by
  unfold mf_burrow
  rw [hm, if_neg (nI_pos ha)]
  exact MIq_mk scr_rd0
theorem pk_rd (S : St) (f : Nat → Int32) (a : Nat) : pk (rdS S f a) = pk S := by
  have h : ∀ k, k < 12 → rdS S f a k = S k := fun k hk => rdS_row S f a (by omega) (by omega)
  funext j
  unfold pk
  rw [h 0 (by decide), h 1 (by decide), h 2 (by decide), h 3 (by decide), h 4 (by decide), h 5 (by decide), h 6 (by decide), h 7 (by decide), h 8 (by decide), h 9 (by decide), h 10 (by decide), h 11 (by decide), rdS_12 S f a (by decide), rdS_12 S f a (by decide), rdS_12 S f a (by decide), rdS_12 S f a (by decide)]
theorem rd_mem (S : St) (f : Nat → Int32) (a : Nat) : sw (sr (rdS S f a) 18 (pk (rdS S f a))) 12 5 0 = rdS (sr S 18 (pk S)) f 0 := by
  rw [pk_rd]
  apply st_ext
  intro k j
  unfold rdS
  rw [swv, swv]
  by_cases e : k = 12 ∧ j = 5
  · rw [if_pos e, if_pos e]
    rfl
  · rw [if_neg e, if_neg e]
    by_cases e18 : k = 18
    · subst e18
      rw [sr_eq, sr_ne _ _ (by decide), sr_eq]
    · rw [sr_ne _ _ e18, swv, if_neg e]
      by_cases e14 : k = 14
      · subst e14
        rw [sr_eq, sr_eq]
      · rw [sr_ne _ _ e14, sr_ne _ _ e14, sr_ne _ _ e18]
theorem TM_sr (S : St) (f : Nat → Int32) : TM (sr S 18 f) = TM S := by
  unfold TM
  rw [sr_ne _ _ (by decide)]
theorem sw_sr (S : St) {k : Nat} (h : k ≠ 18) (j : Nat) (v : Int32) (f : Nat → Int32) : sw (sr S 18 f) k j v = sr (sw S k j v) 18 f := by
  apply st_ext
  intro a b
  by_cases e : a = 18
  · subst e
    rw [sw_ne _ _ _ (by omega), sr_eq, sr_eq]
  · rw [sr_ne _ _ e, swv, swv, sr_ne _ _ e]
theorem add_sr (S : St) (n : Nat) (x y t c : Int32) (f : Nat → Int32) : addLock (sr S 18 f) n x y t c = sr (addLock S n x y t c) 18 f := by
  unfold addLock
  rw [sw_sr _ (by decide), sw_sr _ (by decide), sw_sr _ (by decide), sw_sr _ (by decide), sw_sr _ (by decide), sw_sr _ (by decide)]
theorem per_sr (S : St) (n : Nat) (x y t c : Int32) (f : Nat → Int32) : addPerson (sr S 18 f) n x y t c = sr (addPerson S n x y t c) 18 f := by
  unfold addPerson
  rw [sw_sr _ (by decide), sw_sr _ (by decide), sw_sr _ (by decide), sw_sr _ (by decide), sw_sr _ (by decide)]
theorem stO_sr (T : St) (nT : Nat) (W : St) (k : Nat) (f : Nat → Int32) : stO T nT (sr W 18 f) k = stO T nT W k := by
  unfold stO
  rw [sr_ne _ _ (show (12 : Nat) ≠ 18 by decide)]
theorem stS_sr (T : St) (nT : Nat) (W : St) (k : Nat) (f : Nat → Int32) : stS T nT (sr W 18 f) k = sr (stS T nT W k) 18 f := by
  unfold stS tellLeakS tellLockS tellPersonS tellAirS tellSuitsS
  rw [sr_ne _ _ (show (12 : Nat) ≠ 18 by decide)]
  repeat' split
  all_goals first | rfl | (rw [sw_sr _ (by decide)]) | (rw [add_sr]) | (rw [per_sr])
/-- what no statement changes -/
def Fix (S W : St) : Prop := (∀ k, 13 ≤ k → W k = S k) ∧ (∀ j, 4 ≤ j → W 12 j = S 12 j) ∧ (∀ k, 2 ≤ k → k ≤ 6 → W k 7 = S k 7) ∧ W 11 6 = S 11 6
theorem Fix.rf {S : St} : Fix S S := ⟨fun _ _ => rfl, fun _ _ => rfl, fun _ _ _ => rfl, rfl⟩
theorem Fix.w {S W : St} (h : Fix S W) {k j : Nat} (v : Int32) (hk : k ≤ 12) (h1 : ¬ (k = 12 ∧ 4 ≤ j)) (h2 : ¬ (2 ≤ k ∧ k ≤ 6 ∧ j = 7)) (h3 : ¬ (k = 11 ∧ j = 6)) : Fix S (sw W k j v) :=
  ⟨fun a ha => by rw [sw_ne _ _ _ (by omega)]; exact h.1 a ha, fun b hb => by rw [swv, if_neg (by omega)]; exact h.2.1 b hb, fun a a1 a2 => by rw [swv, if_neg (by omega)]; exact h.2.2.1 a a1 a2, by rw [swv, if_neg (by omega)]; exact h.2.2.2⟩
theorem okLk_lt {nL : Nat} {x y t c : Int32} (hL : nL ≤ 7) (h : okLock nL x y t c = 1) : nL < 7 := by
  unfold okLock at h
  repeat' split at h
  all_goals first | (exact absurd h (by decide)) | skip
  next q => exact (nI_ltI (a := nL) (b := 7) (by omega) (by omega)).mp q
theorem okPe_lt {nP : Nat} {k x f s : Int32} (hP : nP ≤ 5) (h : okPerson nP k x f s = 1) : nP < 5 := by
  unfold okPerson at h
  repeat' split at h
  all_goals first | (exact absurd h (by decide)) | skip
  next q => exact (nI_ltI (a := nP) (b := 5) (by omega) (by omega)).mp q
theorem okSu_lt {f v : Int32} (h : okSuits f v = 1) : cl f ≤ 5 := by
  unfold okSuits at h
  repeat' split at h
  all_goals first | (exact absurd h (by decide)) | skip
  next q1 q2 _ _ =>
    obtain ⟨j, h1, h2, rfl⟩ := fit_of q1 q2
    rw [show cl (nI j) = j from nI_clamp (by omega)]
    exact h2
theorem Fix.st {S W T : St} {nT k : Nat} (h : Fix S W) (hM : MB W) : Fix S (stS T nT W k) := by
  obtain ⟨m1, m2, m3, m4⟩ := hM
  unfold stS
  repeat' split
  · unfold tellLeakS; split
    · exact h.w _ (by decide) (by omega) (by omega) (by omega)
    · exact h
  · unfold tellLockS; split
    · next hh =>
      have hl := okLk_lt m4 hh
      unfold addLock
      exact (((((h.w _ (by decide) (by omega) (by omega) (by omega)).w _ (by decide) (by omega) (by omega) (by omega)).w _ (by decide) (by omega) (by omega) (by omega)).w _ (by decide) (by omega) (by omega) (by omega)).w _ (by decide) (by omega) (by omega) (by omega)).w _ (by decide) (by omega) (by omega) (by omega)
    · exact h
  · unfold tellPersonS; split
    · next hh =>
      have hl := okPe_lt m2 hh
      unfold addPerson
      exact ((((h.w _ (by decide) (by omega) (by omega) (by omega)).w _ (by decide) (by omega) (by omega) (by omega)).w _ (by decide) (by omega) (by omega) (by omega)).w _ (by decide) (by omega) (by omega) (by omega)).w _ (by decide) (by omega) (by omega) (by omega)
    · exact h
  · unfold tellAirS; split
    · exact h.w _ (by decide) (by omega) (by omega) (by omega)
    · exact h
  · unfold tellSuitsS; split
    · next hh =>
      have hl := okSu_lt hh
      exact h.w _ (by decide) (by omega) (by omega) (by omega)
    · exact h
  · exact h
theorem Fix.back {S W : St} (h : Fix S W) (Z : ZZ) (ad : Nat) (q : Nat → Nat) (f : Nat → Int32) (a : Nat) : Same Z (wM Z ad q (up (rdS (sr W 18 (pk S)) f a) (rdS (sr W 18 (pk S)) f a 18))) (wM Z ad q (rdS (sr S 18 (pk S)) f a)) := by
  refine same_M (fun k hk j hj => ?_)
  rw [rdS_row _ f a (k := 18) (by decide) (by decide), sr_eq]
  by_cases hr : (k = 0 ∨ k = 1 ∨ k = 11) ∧ j < 6 ∨ (2 ≤ k ∧ k ≤ 6) ∧ j < 7 ∨ (7 ≤ k ∧ k ≤ 10) ∧ j < 5 ∨ k = 12 ∧ j < 4
  · rw [up_pk _ S hr]
    by_cases h12 : k = 12
    · subst h12
      rw [rdS_12 _ f a (by omega), sr_ne _ _ (by decide)]
    · rw [rdS_row _ f a h12 (by omega), sr_ne _ _ (by omega)]
  · rw [up_else _ _ hr]
    by_cases h14 : k = 14
    · subst h14
      rw [rdS_14, rdS_14]
    · by_cases h12 : k = 12
      · subst h12
        by_cases h5 : j = 5
        · subst h5
          rw [rdS_at, rdS_at]
        · rw [rdS_12 _ f a h5, rdS_12 _ f a h5, sr_ne _ _ (by decide), sr_ne _ _ (by decide)]
          exact h.2.1 j (by omega)
      · rw [rdS_row _ f a h12 h14, rdS_row _ f a h12 h14]
        by_cases h18 : k = 18
        · subst h18
          rw [sr_eq, sr_eq]
        · rw [sr_ne _ _ h18, sr_ne _ _ h18]
          by_cases h13 : 13 ≤ k
          · rw [h.1 k h13]
          · rcases (show k = 0 ∨ k = 1 ∨ k = 2 ∨ k = 3 ∨ k = 4 ∨ k = 5 ∨ k = 6 ∨ k = 7 ∨ k = 8 ∨ k = 9 ∨ k = 10 ∨ k = 11 by omega) with rfl | rfl | rfl | rfl | rfl | rfl | rfl | rfl | rfl | rfl | rfl | rfl
            · exact absurd hj (show ¬ j < 6 by omega)
            · exact absurd hj (show ¬ j < 6 by omega)
            all_goals first | (have hj8 : j < 8 := hj; obtain rfl : j = 7 := (by omega); exact h.2.2.1 _ (by omega) (by omega)) | (have hj5 : j < 5 := hj; omega) | (have hj7 : j < 7 := hj; obtain rfl : j = 6 := (by omega); exact h.2.2.2)
/-- the second reading -/
def H2 (S W : St) (nT i a : Nat) : Prop := MB W ∧ rdL (TM S) nT S (96 - i) a W = rdL (TM S) nT S 96 0 S ∧ (nT ≤ a ∨ mfL (TM S) nT (96 - i) a = mf (TM S) nT) ∧ Fix S W ∧ 4 * i ≤ a ∧ a ≤ nT
theorem H2.next {S W : St} {nT i a : Nat} (h : H2 S W nT i a) (hN : nT ≤ 96) (hi : i < 30) (hm : mf (TM S) nT = -1) (hlt : a < nT) : bs (TM S) nT a = nI (cl (bs (TM S) nT a)) ∧ cl (bs (TM S) nT a) < 2 ^ 31 ∧ (nT ≤ cl (bs (TM S) nT a) ∨ mfL (TM S) nT (96 - (i + 1)) (cl (bs (TM S) nT a)) = mf (TM S) nT) := by
  refine rd_next (r := 96 - (i + 1)) hN (by rw [hm]; decide) ?_
  rw [show 96 - (i + 1) + 1 = 96 - i by omega]
  exact h.2.2.1.resolve_left (by omega)
theorem H2.pos {S W : St} {nT i a : Nat} (h : H2 S W nT i a) (hN : nT ≤ 96) (hi : i < 30) (hm : mf (TM S) nT = -1) (hlt : a < nT) : 0 ≤ bs (TM S) nT a := by
  obtain ⟨e, e2, _⟩ := h.next hN hi hm hlt
  rw [e]
  exact nI_pos' e2
theorem H2.sign {S W : St} {nT i a a1 : Nat} (h : H2 S W nT i a) (hN : nT ≤ 96) (hi : i < 30) (hm : mf (TM S) nT = -1) (hlt : a < nT) (ha : a1 ≤ nT) (hb : bs (TM S) nT a = fin (TM S) nT a1) : sg (TM S) nT a1 = 59 := fin_59 (by omega) (by rw [← hb]; exact h.pos hN hi hm hlt)
theorem H2.go {S W : St} {nT i a a1 : Nat} (h : H2 S W nT i a) (hN : nT ≤ 96) (hi : i < 30) (hm : mf (TM S) nT = -1) (hlt : a < nT) (ha : a1 < nT) (hk : a + 3 ≤ a1) (hb : bs (TM S) nT a = fin (TM S) nT a1) (ho : ¬ stO (TM S) nT W a = 0) : H2 S (stS (TM S) nT W a) nT (i + 1) (a1 + 1) := by
  have hs := h.sign hN hi hm hlt (by omega) hb
  rw [fin_yes hs] at hb
  have hc : cl (bs (TM S) nT a) = a1 + 1 := by
    rw [hb]
    exact nI_clamp (by omega)
  have hx := (h.next hN hi hm hlt).2.2
  rw [hc] at hx
  refine ⟨h.1.st, ?_, hx, h.2.2.2.1.st h.1, by have := h.2.2.2.2.1; omega, by omega⟩
  rw [← h.2.1, show 96 - i = (96 - (i + 1)) + 1 by omega, rdL, if_neg (nI_ge hlt (by omega)), if_pos ho, hc]
theorem H2.out_ {S W : St} {nT i a : Nat} (h : H2 S W nT i a) (hi : i < 30) (hge : nI nT ≤ nI a) : rdL (TM S) nT S 96 0 S = (nI i, W) := by
  rw [← h.2.1, show 96 - i = (96 - (i + 1)) + 1 by omega, rdL, if_pos hge, show 96 - (96 - (i + 1) + 1) = i by omega]
theorem H2.bad {S W : St} {nT i a : Nat} (h : H2 S W nT i a) (hi : i < 30) (hge : ¬ nI nT ≤ nI a) (ho : stO (TM S) nT W a = 0) : rdL (TM S) nT S 96 0 S = (-2000 - nI a, S) := by
  rw [← h.2.1, show 96 - i = (96 - (i + 1)) + 1 by omega, rdL, if_neg hge, if_neg (fun q => q ho)]
theorem bur_ok {Z : ZZ} {h : Nat} {q : Nat → Nat} {S W : St} {nT a : Nat} {v : Int32} {g p : Nat → Int32} (hm : mf (TM S) nT = -1) (e : rdL (TM S) nT S 96 0 S = (v, W)) : MIq Z h q 8 (mf_burrow S nT) (some (.int v)) (wM Z h q (sw (rdS (sr W 18 p) g a) 12 4 0)) := by
  unfold mf_burrow
  rw [hm, if_pos (by decide), e]
  exact MIq_mk scr_rd
set_option maxHeartbeats 4000000 in
set_option maxRecDepth 20000 in
theorem con_M_burrow (l : Launch) (Z : ZZ) (h : Nat) (q : Nat → Nat) (S : St) (nT : Nat) (hN : S 12 4 = nI nT) (hN96 : nT ≤ 96) (hB : ∀ j, j < nT → ∃ b, b < 256 ∧ S 13 j = nI b) (nP nL : Nat) (hP : S 12 1 = nI nP) (hP5 : nP ≤ 5) (hL : S 12 0 = nI nL) (hL7 : nL ≤ 7) : Con l Z yM_burrow cM_burrow 4 (some .int) 5 [.ref h] (wM Z h q S) (MIq Z h q 8 (mf_burrow S nT)) := by
  refine Con.of (by decide) (Nat.le_of_ble_eq_true rfl) (fun X hX hQ => ?_)
  show G X Z (wM Z h q S) 0 [(0, .ref h)] []
  refine g_aload_n hX dM_burrow_0 0 rfl ?_
  refine g_iconst (v := 0) hX dM_burrow_1 (by decide) ?_
  refine g_put (ws1 := wM Z h q (sw S 12 5 0)) hX 0 rfl rfl 18 (by decide) uu_M tyF_M tyF_M_ok nmF_M q_602 rfl rfl rfl rfl rfl (Nat.le_of_ble_eq_true rfl) dM_burrow_2 (fldM_S_12_5 Z h q S 0) ?_
  refine g_eq (ws1 := wM Z h q (rdS S (S 14) 0)) (congrArg (wM Z h q) (rd_zero S)) rfl rfl ?_
  refine g_iconst (v := 1) hX dM_burrow_5 (by decide) ?_
  refine g_istore_n (lv1 := [(0, .ref h), (1, .int 1)]) hX dM_burrow_6 (by decide) [1, 0] rfl ?_
  have hL_7 : ∀ i0, i0 ≤ 30 → ∀ (f0 : Nat → Int32) (a0 : Nat), H1 S nT i0 a0 → G X Z (wM Z h q (rdS S f0 a0)) 7 [(0, .ref h), (1, .int 1)] [] := by
    refine loopUp _ 30 (fun f0 a0 hH => absurd hH.2.1 (by have := hH.2.2; omega)) (fun i0 hi_i0 ih_i0 => ?_)
    intro f0 a0 hH
    refine g_iload_n hX dM_burrow_7 1 rfl ?_
    refine g_if_eq hX 53 dM_burrow_8 (by decide) (fun c_8 => absurd c_8 (by decide)) (fun c_8 => ?_)
    refine g_aload_n hX dM_burrow_11 0 rfl ?_
    refine g_iconst (v := 0) hX dM_burrow_12 (by decide) ?_
    refine g_callV hX (con_M_statement l Z h q S f0 a0 0 nT hN hN96 (fun z => absurd rfl z) hH.2.2 hB nP nL hP hP5 hL hL7) mvM_statement q_684 rfl (by decide) 0 rfl rfl rfl (Nat.le_of_ble_eq_true rfl) dM_burrow_13 [0, 1, 2, 3, 4, 5, 6, 7, 8, 9, 10, 11, 12, 13, 14, 15, 16, 17, 18, 19, 20, 21] rfl (subM_all Z h q (rdS S f0 a0)) (fun v w hp => ?_)
    obtain ⟨f1, a1, ha1, hp⟩ := hp
    rcases hp with ⟨rfl, hb, rfl⟩ | ⟨hb, hk3, ⟨-, rfl, rfl⟩ | ⟨hne, -, -⟩⟩
    · skip
      refine g_eq (ws1 := wM Z h q (rdS S f1 a1)) (st1 := [.int (-1)]) (putM_all Z h q (rdS S f0 a0) _) rfl rfl ?_
      refine g_iconst (v := 1) hX dM_burrow_16 (by decide) ?_
      refine g_icmp_ne hX 33 dM_burrow_17 (by decide) (fun c_17 => ?_) (fun c_17 => absurd c_17 (by decide))
      refine g_iconst (v := 0) hX dM_burrow_33 (by decide) ?_
      refine g_istore_n (lv1 := [(0, .ref h), (1, .int 0)]) hX dM_burrow_34 (by decide) [1, 0] rfl ?_
      refine g_iload_n hX dM_burrow_35 1 rfl ?_
      refine g_if_eq hX 7 dM_burrow_36 (by decide) (fun c_36 => ?_) (fun c_36 => absurd (rfl) c_36)
      refine g_iload_n hX dM_burrow_7 1 rfl ?_
      refine g_if_eq hX 53 dM_burrow_8 (by decide) (fun c_8x => ?_) (fun c_8x => absurd (rfl) c_8x)
      refine g_iload_n hX dM_burrow_53 1 rfl ?_
      refine g_if_ne hX 71 dM_burrow_54 (by decide) (fun c_54 => absurd (rfl) c_54) (fun c_54 => ?_)
      refine g_aload_n hX dM_burrow_57 0 rfl ?_
      refine g_iconst (v := 0) hX dM_burrow_58 (by decide) ?_
      refine g_put (ws1 := wM Z h q (sw (rdS S f1 a1) 12 4 0)) hX 0 rfl rfl 16 (by decide) uu_M tyF_M tyF_M_ok nmF_M q_600 rfl rfl rfl rfl rfl (Nat.le_of_ble_eq_true rfl) dM_burrow_59 (fldM_S_12_4 Z h q (rdS S f1 a1) 0) ?_
      refine g_sipush (v := (-1000)) hX dM_burrow_62 (by decide) ?_
      refine g_aload_n hX dM_burrow_65 0 rfl ?_
      refine g_get hX 0 rfl rfl 18 (by decide) uu_M q_602 rfl rfl dM_burrow_66 ?_
      refine g_top (y := (nI a1)) (by first | exact rdS_at _ _ _ | (rw [swv, if_neg (by decide)]; exact rdS_at _ _ _)) ?_
      refine g_isub (z := ((-1000) - (nI a1))) hX dM_burrow_69 (rfl) ?_
      exact r_iret hX hQ dM_burrow_70 keysM (bur_no (by omega) (hH.no hi_i0 ha1 hN96 (hb)))
    · skip
      refine g_eq (ws1 := wM Z h q (rdS S f1 a1)) (st1 := [.int 1]) (putM_all Z h q (rdS S f0 a0) _) rfl rfl ?_
      refine g_iconst (v := 1) hX dM_burrow_16 (by decide) ?_
      refine g_icmp_ne hX 33 dM_burrow_17 (by decide) (fun c_17 => absurd (rfl) c_17) (fun c_17 => ?_)
      refine g_aload_n hX dM_burrow_20 0 rfl ?_
      refine g_bipush (v := 59) hX dM_burrow_21 (by decide) ?_
      refine g_callV hX (con_M_is l Z h q S f1 a1 59 (by decide) nT hN hN96 ⟨by omega, hN96⟩) mvM_is q_688 rfl (by decide) 0 rfl rfl rfl (Nat.le_of_ble_eq_true rfl) dM_burrow_23 [0, 1, 2, 3, 4, 5, 6, 7, 8, 9, 10, 11, 12, 13, 14, 15, 16, 17, 18, 19, 20, 21] rfl (subM_all Z h q (rdS S f1 a1)) (fun v w hp => ?_)
      rcases hp with ⟨rfl, ⟨hs59, hl59⟩, rfl⟩ | ⟨rfl, hs59, rfl⟩
      · skip
        refine g_eq (ws1 := wM Z h q (rdS S f1 (a1 + 1))) (st1 := [.int 1]) (putM_all Z h q (rdS S f1 a1) _) rfl rfl ?_
        refine g_if_eq hX 33 dM_burrow_26 (by decide) (fun c_26 => absurd c_26 (by decide)) (fun c_26 => ?_)
        refine g_iconst (v := 1) hX dM_burrow_29 (by decide) ?_
        refine g_goto hX 34 dM_burrow_30 (by decide) ?_
        refine g_istore_n (lv1 := [(0, .ref h), (1, .int 1)]) hX dM_burrow_34 (by decide) [1, 0] rfl ?_
        refine g_iload_n hX dM_burrow_35 1 rfl ?_
        refine g_if_eq hX 7 dM_burrow_36 (by decide) (fun c_36 => absurd c_36 (by decide)) (fun c_36 => ?_)
        refine g_aload_n hX dM_burrow_39 0 rfl ?_
        refine g_get hX 0 rfl rfl 18 (by decide) uu_M q_602 rfl rfl dM_burrow_40 ?_
        refine g_top (y := (nI (a1 + 1))) (by first | exact rdS_at _ _ _ | (rw [swv, if_neg (by decide)]; exact rdS_at _ _ _)) ?_
        refine g_aload_n hX dM_burrow_43 0 rfl ?_
        refine g_get hX 0 rfl rfl 16 (by decide) uu_M q_600 rfl rfl dM_burrow_44 ?_
        refine g_top (y := (nI nT)) ((rdS_12 _ _ _ (by decide)).trans (by first | exact hN | (rw [sr_ne _ _ (by decide), hH.2.2.2.1.2.1 4 (by decide)]; exact hN))) ?_
        refine g_icmp_ne hX 7 dM_burrow_47 (by decide) (fun c_47 => ?_) (fun c_47 => ?_)
        · exact ih_i0 f1 (a1 + 1) (hH.go hi_i0 hN96 (hb.trans (fin_yes hs59)) hk3 (by have : a1 + 1 ≠ nT := fun z => c_47 (by rw [z]); omega))
        · refine g_goto hX 53 dM_burrow_50 (by decide) ?_
          refine g_iload_n hX dM_burrow_53 1 rfl ?_
          refine g_if_ne hX 71 dM_burrow_54 (by decide) (fun c_54 => ?_) (fun c_54 => absurd c_54 (by decide))
          have hmf : mf (TM S) nT = -1 := hH.end_ hi_i0 hN96 (hb.trans (fin_yes hs59)) ((nI_eq (by omega) (by omega)).mp c_47)
          refine g_aload_n hX dM_burrow_71 0 rfl ?_
          refine g_aload_n hX dM_burrow_72 0 rfl ?_
          refine g_get hX 0 rfl rfl 25 (by decide) uu_M q_609 rfl rfl dM_burrow_73 ?_
          refine g_callV hX (con_M_keep_18 l Z h q (rdS S f1 (a1 + 1))) mvM_keep q_765 rfl (by decide) 0 rfl rfl rfl (Nat.le_of_ble_eq_true rfl) dM_burrow_76 [0, 1, 2, 3, 4, 5, 6, 7, 8, 9, 10, 11, 12, 13, 14, 15, 16, 17, 18, 19, 20, 21] rfl (subM_all Z h q (rdS S f1 (a1 + 1))) (g_fn (ws1 := wM Z h q (sr (rdS S f1 (a1 + 1)) 18 (pk (rdS S f1 (a1 + 1))))) (st1 := []) (putM_all Z h q (rdS S f1 (a1 + 1)) (sr (rdS S f1 (a1 + 1)) 18 (pk (rdS S f1 (a1 + 1))))) rfl ?_)
          refine g_aload_n hX dM_burrow_79 0 rfl ?_
          refine g_iconst (v := 0) hX dM_burrow_80 (by decide) ?_
          refine g_put (ws1 := wM Z h q (sw (sr (rdS S f1 (a1 + 1)) 18 (pk (rdS S f1 (a1 + 1)))) 12 5 0)) hX 0 rfl rfl 18 (by decide) uu_M tyF_M tyF_M_ok nmF_M q_602 rfl rfl rfl rfl rfl (Nat.le_of_ble_eq_true rfl) dM_burrow_81 (fldM_S_12_5 Z h q (sr (rdS S f1 (a1 + 1)) 18 (pk (rdS S f1 (a1 + 1)))) 0) ?_
          refine g_eq (ws1 := wM Z h q (rdS (sr S 18 (pk S)) f1 0)) (congrArg (wM Z h q) (rd_mem S f1 (a1 + 1))) rfl rfl ?_
          refine g_iconst (v := 0) hX dM_burrow_84 (by decide) ?_
          refine g_istore_n (lv1 := [(0, .ref h), (1, .int 1), (2, .int 0)]) hX dM_burrow_85 (by decide) [1, 2, 0] rfl ?_
          have hL_86 : ∀ i0, i0 ≤ 30 → ∀ (f0 : Nat → Int32) (a0 : Nat) (W0 : St), H2 S W0 nT i0 a0 → G X Z (wM Z h q (rdS (sr W0 18 (pk S)) f0 a0)) 86 [(0, .ref h), (1, .int 1), (2, .int (nI i0))] [] := by
            clear hH hb hk3 hi_i0 ih_i0
            refine loopUp _ 30 (fun f0 a0 W0 hH => absurd hH.2.2.2.2.1 (by have := hH.2.2.2.2.2; omega)) (fun i0 hi_i0 ih_i0 => ?_)
            intro f0 a0 W0 hH
            refine g_aload_n hX dM_burrow_86 0 rfl ?_
            refine g_get hX 0 rfl rfl 18 (by decide) uu_M q_602 rfl rfl dM_burrow_87 ?_
            refine g_top (y := (nI a0)) (by first | exact rdS_at _ _ _ | (rw [swv, if_neg (by decide)]; exact rdS_at _ _ _)) ?_
            refine g_aload_n hX dM_burrow_90 0 rfl ?_
            refine g_get hX 0 rfl rfl 16 (by decide) uu_M q_600 rfl rfl dM_burrow_91 ?_
            refine g_top (y := (nI nT)) ((rdS_12 _ _ _ (by decide)).trans (by first | exact hN | (rw [sr_ne _ _ (by decide), hH.2.2.2.1.2.1 4 (by decide)]; exact hN))) ?_
            refine g_icmp_ge hX 142 dM_burrow_94 (by decide) (fun c_94 => ?_) (fun c_94 => ?_)
            · refine g_aload_n hX dM_burrow_142 0 rfl ?_
              refine g_iconst (v := 0) hX dM_burrow_143 (by decide) ?_
              refine g_put (ws1 := wM Z h q (sw (rdS (sr W0 18 (pk S)) f0 a0) 12 4 0)) hX 0 rfl rfl 16 (by decide) uu_M tyF_M tyF_M_ok nmF_M q_600 rfl rfl rfl rfl rfl (Nat.le_of_ble_eq_true rfl) dM_burrow_144 (fldM_S_12_4 Z h q (rdS (sr W0 18 (pk S)) f0 a0) 0) ?_
              refine g_iload_n hX dM_burrow_147 2 rfl ?_
              exact r_iret hX hQ dM_burrow_148 keysM (bur_ok hmf (hH.out_ hi_i0 c_94))
            · have hlt := lt_of_n hN96 (by have := hH.2.2.2.2.2; omega) c_94
              have hpos := hH.pos hN96 hi_i0 hmf hlt
              have hTW : TM W0 = TM S := by unfold TM; rw [hH.2.2.2.1.1 13 (by decide)]
              refine g_aload_n hX dM_burrow_97 0 rfl ?_
              refine g_get hX 0 rfl rfl 18 (by decide) uu_M q_602 rfl rfl dM_burrow_98 ?_
              refine g_top (y := (nI a0)) (by first | exact rdS_at _ _ _ | (rw [swv, if_neg (by decide)]; exact rdS_at _ _ _)) ?_
              refine g_istore_n (lv1 := [(0, .ref h), (1, .int 1), (2, .int (nI i0)), (3, .int (nI a0))]) hX dM_burrow_101 (by decide) [1, 2, 3, 0] rfl ?_
              refine g_aload_n hX dM_burrow_102 0 rfl ?_
              refine g_iconst (v := 1) hX dM_burrow_103 (by decide) ?_
              refine g_callV hX (con_M_statement l Z h q (sr W0 18 (pk S)) f0 a0 1 nT (by rw [sr_ne _ _ (by decide), hH.2.2.2.1.2.1 4 (by decide)]; exact hN) hN96 (fun _ => by rw [TM_sr, hTW]; exact hpos) (by omega) (by rw [sr_ne _ _ (by decide), hH.2.2.2.1.1 13 (by decide)]; exact hB) (cl (W0 12 1)) (cl (W0 12 0)) (by rw [sr_ne _ _ (by decide)]; exact hH.1.1) hH.1.2.1 (by rw [sr_ne _ _ (by decide)]; exact hH.1.2.2.1) hH.1.2.2.2) mvM_statement q_684 rfl (by decide) 0 rfl rfl rfl (Nat.le_of_ble_eq_true rfl) dM_burrow_104 [0, 1, 2, 3, 4, 5, 6, 7, 8, 9, 10, 11, 12, 13, 14, 15, 16, 17, 18, 19, 20, 21] rfl (subM_all Z h q (rdS (sr W0 18 (pk S)) f0 a0)) (fun v w hp => ?_)
              obtain ⟨f1, a1, ha1, hp⟩ := hp
              rw [TM_sr, stO_sr, stS_sr, hTW] at hp
              rcases hp with ⟨-, hb, -⟩ | ⟨hb, hk3, ⟨hne, -, -⟩ | ⟨-, rfl, rfl⟩⟩
              · exact absurd (by rw [hb] at hpos; exact hpos) (m1_neg (show a1 < 2 ^ 30 by omega))
              · exact absurd hne (by decide)
              have hs59 := hH.sign hN96 hi_i0 hmf hlt ha1 hb
              obtain ⟨W1, hW1⟩ : ∃ W1, W1 = stS (TM S) nT W0 a0 := ⟨_, rfl⟩
              have hF1 : Fix S W1 := by rw [hW1]; exact hH.2.2.2.1.st hH.1
              have hTW : TM W1 = TM S := by unfold TM; rw [hF1.1 13 (by decide)]
              have hNW : (sr W1 18 (pk S)) 12 4 = nI nT := by rw [sr_ne _ _ (by decide), hF1.2.1 4 (by decide)]; exact hN
              refine g_eq (ws1 := wM Z h q (rdS (sr W1 18 (pk S)) f1 a1)) (st1 := [.int (stO (TM S) nT W0 a0)]) ((putM_all Z h q (rdS (sr W0 18 (pk S)) f0 a0) _).trans (by rw [hW1])) rfl rfl ?_
              refine g_if_ne hX 129 dM_burrow_107 (by decide) (fun c_107 => ?_) (fun c_107 => ?_)
              · refine g_aload_n hX dM_burrow_129 0 rfl ?_
                refine g_bipush (v := 59) hX dM_burrow_130 (by decide) ?_
                refine g_callV hX (con_M_is l Z h q (sr W1 18 (pk S)) f1 a1 59 (by decide) nT hNW hN96 ⟨by omega, hN96⟩) mvM_is q_688 rfl (by decide) 0 rfl rfl rfl (Nat.le_of_ble_eq_true rfl) dM_burrow_132 [0, 1, 2, 3, 4, 5, 6, 7, 8, 9, 10, 11, 12, 13, 14, 15, 16, 17, 18, 19, 20, 21] rfl (subM_all Z h q (rdS (sr W1 18 (pk S)) f1 a1)) (fun v w hp => ?_)
                rcases hp with ⟨rfl, ⟨-, hl9⟩, rfl⟩ | ⟨-, hs9, -⟩
                rotate_left
                · exact absurd (by rw [TM_sr]; exact (congrFun (congrFun (congrArg sg hTW) nT) a1).trans hs59) hs9
                refine g_eq (ws1 := wM Z h q (rdS (sr W1 18 (pk S)) f1 (a1 + 1))) (st1 := [.int 1]) (putM_all Z h q (rdS (sr W1 18 (pk S)) f1 a1) _) rfl rfl ?_
                refine g_pop hX dM_burrow_135 rfl ?_
                refine g_iinc (v := (nI (i0 + 1))) (lv1 := [(0, .ref h), (1, .int 1), (2, .int (nI (i0 + 1))), (3, .int (nI a0))]) hX dM_burrow_136 2 rfl (inc_nat _) (by decide) [1, 2, 0, 3] rfl ?_
                refine g_goto hX 86 dM_burrow_139 (by decide) ?_
                refine g_lv (lv1 := [(0, .ref h), (1, .int 1), (2, .int (nI (i0 + 1)))]) [0, 1, 2] rfl ?_
                exact ih_i0 f1 (a1 + 1) W1 (by rw [hW1]; exact hH.go hN96 hi_i0 hmf hlt hl9 hk3 hb c_107)
              · refine g_aload_n hX dM_burrow_110 0 rfl ?_
                refine g_aload_n hX dM_burrow_111 0 rfl ?_
                refine g_get hX 0 rfl rfl 25 (by decide) uu_M q_609 rfl rfl dM_burrow_112 ?_
                refine g_callV hX (con_M_again_18 l Z h q (rdS (sr W1 18 (pk S)) f1 a1)) mvM_again q_769 rfl (by decide) 0 rfl rfl rfl (Nat.le_of_ble_eq_true rfl) dM_burrow_115 [0, 1, 2, 3, 4, 5, 6, 7, 8, 9, 10, 11, 12, 13, 14, 15, 16, 17, 18, 19, 20, 21] rfl (subM_all Z h q (rdS (sr W1 18 (pk S)) f1 a1)) (g_fn (ws1 := wM Z h q (up (rdS (sr W1 18 (pk S)) f1 a1) ((rdS (sr W1 18 (pk S)) f1 a1) 18))) (st1 := []) (putM_all Z h q (rdS (sr W1 18 (pk S)) f1 a1) (up (rdS (sr W1 18 (pk S)) f1 a1) ((rdS (sr W1 18 (pk S)) f1 a1) 18))) rfl ?_)
                refine g_same (ws1 := wM Z h q (rdS (sr S 18 (pk S)) f1 a1)) (hF1.back Z h q f1 a1) ?_
                refine g_aload_n hX dM_burrow_118 0 rfl ?_
                refine g_iconst (v := 0) hX dM_burrow_119 (by decide) ?_
                refine g_put (ws1 := wM Z h q (sw (rdS (sr S 18 (pk S)) f1 a1) 12 4 0)) hX 0 rfl rfl 16 (by decide) uu_M tyF_M tyF_M_ok nmF_M q_600 rfl rfl rfl rfl rfl (Nat.le_of_ble_eq_true rfl) dM_burrow_120 (fldM_S_12_4 Z h q (rdS (sr S 18 (pk S)) f1 a1) 0) ?_
                refine g_sipush (v := (-2000)) hX dM_burrow_123 (by decide) ?_
                refine g_iload_n hX dM_burrow_126 3 rfl ?_
                refine g_isub (z := ((-2000) - (nI a0))) hX dM_burrow_127 (rfl) ?_
                exact r_iret hX hQ dM_burrow_128 keysM (bur_ok hmf (hH.bad hi_i0 c_94 c_107))
          exact hL_86 0 (Nat.zero_le _) f1 0 S ⟨MB.of hP hP5 hL hL7, rfl, Or.inr rfl, Fix.rf, by decide, Nat.zero_le _⟩
      · skip
        refine g_eq (ws1 := wM Z h q (rdS S f1 a1)) (st1 := [.int 0]) (putM_all Z h q (rdS S f1 a1) _) rfl rfl ?_
        refine g_if_eq hX 33 dM_burrow_26 (by decide) (fun c_26 => ?_) (fun c_26 => absurd (rfl) c_26)
        refine g_iconst (v := 0) hX dM_burrow_33 (by decide) ?_
        refine g_istore_n (lv1 := [(0, .ref h), (1, .int 0)]) hX dM_burrow_34 (by decide) [1, 0] rfl ?_
        refine g_iload_n hX dM_burrow_35 1 rfl ?_
        refine g_if_eq hX 7 dM_burrow_36 (by decide) (fun c_36 => ?_) (fun c_36 => absurd (rfl) c_36)
        refine g_iload_n hX dM_burrow_7 1 rfl ?_
        refine g_if_eq hX 53 dM_burrow_8 (by decide) (fun c_8x => ?_) (fun c_8x => absurd (rfl) c_8x)
        refine g_iload_n hX dM_burrow_53 1 rfl ?_
        refine g_if_ne hX 71 dM_burrow_54 (by decide) (fun c_54 => absurd (rfl) c_54) (fun c_54 => ?_)
        refine g_aload_n hX dM_burrow_57 0 rfl ?_
        refine g_iconst (v := 0) hX dM_burrow_58 (by decide) ?_
        refine g_put (ws1 := wM Z h q (sw (rdS S f1 a1) 12 4 0)) hX 0 rfl rfl 16 (by decide) uu_M tyF_M tyF_M_ok nmF_M q_600 rfl rfl rfl rfl rfl (Nat.le_of_ble_eq_true rfl) dM_burrow_59 (fldM_S_12_4 Z h q (rdS S f1 a1) 0) ?_
        refine g_sipush (v := (-1000)) hX dM_burrow_62 (by decide) ?_
        refine g_aload_n hX dM_burrow_65 0 rfl ?_
        refine g_get hX 0 rfl rfl 18 (by decide) uu_M q_602 rfl rfl dM_burrow_66 ?_
        refine g_top (y := (nI a1)) (by first | exact rdS_at _ _ _ | (rw [swv, if_neg (by decide)]; exact rdS_at _ _ _)) ?_
        refine g_isub (z := ((-1000) - (nI a1))) hX dM_burrow_69 (rfl) ?_
        exact r_iret hX hQ dM_burrow_70 keysM (bur_no (by omega) (hH.no hi_i0 ha1 hN96 (hb.trans (fin_no hs59))))
    · exact absurd rfl hne
  exact hL_7 0 (Nat.zero_le _) (S 14) 0 ⟨rfl, by decide, Nat.zero_le _⟩
