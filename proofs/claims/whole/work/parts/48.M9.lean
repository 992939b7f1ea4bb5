/-! the Model: in mind -/
def mf_passes (S : St) (nP : Nat) (x y : Int32) : Int32 × St := if hasPersonS S x = 0 then (-1, nob S 1) else if hasLockS S y = 0 then (-1, nob S 1) else if canPassS S x y = 0 then (-3, nob S 3) else if S 12 2 + S 5 (cl y) ≤ 999 then (goS nP S (cl x) (cl y) 8 (cl x), goS nP S (cl x) (cl y)) else (-6, nob S 6)
def mf_count (S : St) (w : Int32) : Int32 × St := if w = 0 then (S 12 0, S) else if w = 1 then (S 12 1, S) else if w = 2 then (S 12 2, S) else if w = 3 then (smI (S 0) 6, S) else if w = 4 then (smI (S 1) 6, S) else if w = 5 then (S 12 3, S) else if w = 6 then (S 12 6, S) else if w = 7 then (S 12 4, S) else if wthS w 11 16 = 0 then (-9, S) else (S 16 (cl w - 10), S)
def mf_air (S : St) (nP : Nat) (x v : Int32) : Int32 × St := if isRoomS x = 0 then (-1, nob S 1) else if 0 ≤ v then (if v ≤ 99 then (liveN nP S (cl v) 0 (cl x), S) else (-6, nob S 6)) else (-4, nob S 4)
def mf_gasps (S : St) (nP : Nat) (v : Int32) : Int32 × St := if 0 ≤ v then (if v ≤ 99 then (liveN nP S (cl v) 12 3 - S 12 3, S) else (-6, nob S 6)) else (-4, nob S 4)
theorem wth_of {w : Int32} (h : ¬ wthS w 11 16 = 0) : ∃ j, 1 ≤ j ∧ j ≤ 6 ∧ w = nI (j + 10) := by
  unfold wthS at h
  by_cases h1 : w < 11
  · rw [if_pos h1] at h
    exact absurd rfl h
  · rw [if_neg h1] at h
    by_cases h2 : 16 < w
    · rw [if_pos h2] at h
      exact absurd rfl h
    · obtain ⟨j, h4, h5, rfl⟩ := mins_of (a := 11) (b := 16) (na := 11) (nb := 16) rfl rfl (by decide) (by decide) (Int32.not_lt.mp h1) h2
      exact ⟨j - 10, by omega, by omega, by rw [show j - 10 + 10 = j by omega]⟩
theorem gsp_eq {nL nP n : Nat} {S V : St} (h : Eq9 nL S V) : liveN nP V n 12 3 - V 12 3 = liveN nP S n 12 3 - S 12 3 := by
  rw [(h.live n).2.2 3 (by decide), h.2.2 3 (by decide)]
theorem Eq9.mem (nL : Nat) (S : St) : Eq9 nL S (sr S 18 (pk S)) := Eq9.row (by decide) _
theorem can_lt {S : St} {x y : Int32} {nL : Nat} (hL : S 12 0 = nI nL) (hL8 : nL ≤ 8) (h : ¬ canPassS S x y = 0) : cl y < nL := by
  have h2 : ¬ hasLockS S y = 0 := fun q => h (by unfold canPassS; rw [if_pos q]; split <;> rfl)
  obtain ⟨k, hk, rfl⟩ := hasL_of8 hL hL8 h2
  rw [show cl (nI k) = k from nI_clamp (by omega)]
  exact hk
theorem ptL_eq9 {U : St} {nP nL : Nat} (hL8 : nL ≤ 8) : ∀ (r i : Nat) (V V' : St), V 12 0 = nI nL → Eq9 nL V V' → (ptL U nP r i V').1 = (ptL U nP r i V).1 ∧ Eq9 nL (ptL U nP r i V).2 (ptL U nP r i V').2
  | 0, _, _, _, _, h => ⟨rfl, h⟩
  | r + 1, i, V, V', hL, h => by
    rw [ptL, ptL, h.can hL hL8]
    by_cases hc : canPassS V (U 1 i / 10) (U 1 i - U 1 i / 10 * 10) = 0
    · rw [if_pos hc, if_pos hc]
      exact ⟨rfl, h⟩
    · rw [if_neg hc, if_neg hc]
      exact ptL_eq9 hL8 r (i + 1) _ _ ((goS_12j nP V _ _ (by decide) (by decide)).trans hL) (h.go (can_lt hL hL8 hc))
theorem sdL_eq9 {nP nL : Nat} (hL8 : nL ≤ 8) : ∀ (r : Nat) (z k : Int32) (V V' : St), V 12 0 = nI nL → Eq9 nL V V' → sdL nP r z V' k = sdL nP r z V k
  | 0, _, _, _, _, _, _ => rfl
  | r + 1, z, k, V, V', hL, h => by
    rw [sdL, sdL, h.2.2 1 (by decide), h.2.2 0 (by decide), h.can hL hL8]
    by_cases hc : canPassS V (drawnS (nextSeedS z) (V 12 1)) (drawnS (nextSeedS (nextSeedS z)) (V 12 0)) = 0
    · rw [if_pos hc, if_pos hc]
      exact sdL_eq9 hL8 r _ _ _ _ hL h
    · rw [if_neg hc, if_neg hc]
      exact sdL_eq9 hL8 r _ _ _ _ ((goS_12j nP V _ _ (by decide) (by decide)).trans hL) (h.go (can_lt hL hL8 hc))
def JD (R : Nat → Int32) (nP nR : Nat) (S V : St) (i : Nat) : Prop := (ptL (fun _ => R) nP (nR - i) i V).1 = (ptL (fun _ => R) nP nR 0 S).1 ∧ V 14 0 + ((ptL (fun _ => R) nP (nR - i) i V).2 12 3 - V 12 3) = (ptL (fun _ => R) nP nR 0 S).2 12 3 - S 12 3
theorem JD.start {R : Nat → Int32} {nP nR nL : Nat} {S : St} (hL : S 12 0 = nI nL) (hL8 : nL ≤ 8) : JD R nP nR S (sw (sr S 18 (pk S)) 14 0 0) 0 := by
  have h9 : Eq9 nL S (sw (sr S 18 (pk S)) 14 0 0) := (Eq9.mem nL S).w14 0 0
  obtain ⟨e1, e2⟩ := ptL_eq9 (U := fun _ => R) (nP := nP) hL8 nR 0 S _ hL h9
  refine ⟨e1, ?_⟩
  rw [Nat.sub_zero, e2.2.2 3 (by decide), h9.2.2 3 (by decide), swv, if_pos ⟨rfl, rfl⟩, Int32.zero_add]
theorem j_step (a w v p : Int32) : a + (w - v) + (p - w) = a + (p - v) := by
  rw [Int32.add_assoc]
  congr 1
  rw [Int32.sub_eq_add_neg, Int32.sub_eq_add_neg, Int32.sub_eq_add_neg, show w + -v + (p + -w) = p + -v + (w + -w) by ac_rfl, Int32.add_right_neg, Int32.add_zero]
theorem JD.step {R : Nat → Int32} {nP nR nL i p g : Nat} {S V : St} (h : JD R nP nR S V i) (hi : i < nR) (hL : V 12 0 = nI nL) (hL8 : nL ≤ 8) (hp : R i / 10 = nI p) (hg : R i - R i / 10 * 10 = nI g) (hp5 : p < 2 ^ 31) (hgl : g < 2 ^ 31) (hc : ¬ canPassS V (nI p) (nI g) = 0) : JD R nP nR S (sw (goS nP V p g) 14 0 (V 14 0 + (goS nP V p g 12 3 - V 12 3))) (i + 1) := by
  unfold JD at h
  rw [show nR - i = (nR - (i + 1)) + 1 by omega, ptL, hg, hp, if_neg hc, show cl (nI p) = p from nI_clamp hp5, show cl (nI g) = g from nI_clamp hgl] at h
  have h9 : Eq9 nL (goS nP V p g) (sw (goS nP V p g) 14 0 (V 14 0 + (goS nP V p g 12 3 - V 12 3))) := Eq9.rf.w14 0 _
  obtain ⟨e1, e2⟩ := ptL_eq9 (U := fun _ => R) (nP := nP) hL8 (nR - (i + 1)) (i + 1) _ _ ((goS_12j nP V p g (by decide) (by decide)).trans hL) h9
  refine ⟨e1.trans h.1, ?_⟩
  rw [e2.2.2 3 (by decide), h9.2.2 3 (by decide), swv, if_pos ⟨rfl, rfl⟩, j_step]
  exact h.2
theorem JD.done {R : Nat → Int32} {nP nR i : Nat} {S V : St} (h : JD R nP nR S V i) (e : ptL (fun _ => R) nP (nR - i) i V = (nI i, V)) : nI i = (ptL (fun _ => R) nP nR 0 S).1 ∧ V 14 0 = (ptL (fun _ => R) nP nR 0 S).2 12 3 - S 12 3 := by
  unfold JD at h
  rw [e, Int32.sub_self, Int32.add_zero] at h
  exact h
theorem ptL_no {R : Nat → Int32} {nP nR i : Nat} {V : St} (hi : i < nR) (hc : canPassS V (R i / 10) (R i - R i / 10 * 10) = 0) : ptL (fun _ => R) nP (nR - i) i V = (nI i, V) := by
  rw [show nR - i = (nR - (i + 1)) + 1 by omega, ptL, if_pos hc]
theorem ptL_end {R : Nat → Int32} {nP nR : Nat} {V : St} : ptL (fun _ => R) nP (nR - nR) nR V = (nI nR, V) := by
  rw [Nat.sub_self]
  rfl
theorem can_noP {S : St} {x y : Int32} (h : hasPersonS S x = 0) : canPassS S x y = 0 := by
  unfold canPassS
  rw [if_pos h]
theorem can_noL {S : St} {x y : Int32} (h : hasLockS S y = 0) : canPassS S x y = 0 := by
  unfold canPassS
  rw [if_pos h]
  split <;> rfl
def judP (Z : ZZ) (h : Nat) (q : Nat → Nat) (nL nP nR : Nat) (S : St) : Option Value → va_W → Prop := fun v ws => v = some (.int (ptL (fun _ => S 15) nP nR 0 S).1) ∧ ∃ S', Scr nL S S' ∧ S' 14 0 = (ptL (fun _ => S 15) nP nR 0 S).2 12 3 - S 12 3 ∧ ws = wM Z h q S'
theorem judP_mk {Z : ZZ} {h : Nat} {q : Nat → Nat} {nL nP nR i : Nat} {S V : St} (hj : JD (S 15) nP nR S V i) (e : ptL (fun _ => S 15) nP (nR - i) i V = (nI i, V)) : judP Z h q nL nP nR S (some (.int (nI i))) (wM Z h q (sr (sr S 18 (pk S)) 14 (V 14))) := by
  obtain ⟨e1, e2⟩ := hj.done e
  refine ⟨by rw [e1], _, Scr.back _ _ _ _, ?_, rfl⟩
  rw [sr_eq]
  exact e2
def mf_judge (S : St) (nP nR : Nat) : Int32 × St := if nI nR ≤ (ptL (fun _ => S 15) nP nR 0 S).1 then (-9, S) else ((ptL (fun _ => S 15) nP nR 0 S).1, S)
def mf_ends (S : St) (nP nR : Nat) : Int32 × St := ((ptL (fun _ => S 15) nP nR 0 S).2 12 3 - S 12 3, S)
def mf_seeds (S : St) (nP : Nat) (x z : Int32) : Int32 × St := if 1 ≤ x then (if x ≤ 30 then (if S 12 1 = 0 then (-3, nob S 3) else if ¬ S 12 0 = 0 then (sdL nP (cl x) z S 0, S) else (-3, nob S 3)) else (-6, nob S 6)) else (-4, nob S 4)
theorem and_ns (z : Int32) : ∃ j, j < 2 ^ 31 ∧ z &&& 2147483647 = nI j := by
  refine nI_of (fun hz => ?_)
  have h1 : (z &&& 2147483647).toInt < 0 := by
    rw [Int32.lt_iff_toInt_lt] at hz
    exact hz
  have h2 : (z.toBitVec &&& (2147483647 : Int32).toBitVec).toInt < 0 := h1
  rw [BitVec.toInt_neg_iff] at h2
  rw [BitVec.toNat_and] at h2
  have h3 : z.toBitVec.toNat &&& (2147483647 : Int32).toBitVec.toNat ≤ (2147483647 : Int32).toBitVec.toNat := Nat.and_le_right
  have h4 : (2147483647 : Int32).toBitVec.toNat = 2147483647 := by decide
  rw [h4] at h2 h3
  omega
theorem drawn_of (z : Int32) {n : Nat} (h0 : 0 < n) (hn : n < 2 ^ 31) : ∃ p, p < n ∧ drawnS z (nI n) = nI p := by
  obtain ⟨j, hj, e⟩ := and_ns z
  refine ⟨(j / 256) % n, Nat.mod_lt _ h0, ?_⟩
  unfold drawnS
  rw [if_neg (show ¬ nI n ≤ 0 from nI_ge (a := 0) (b := n) h0 hn), e, show (256 : Int32) = nI 256 from rfl, pk_div hj (by decide) (by decide), pk_rem (by omega) h0 hn]
theorem drw {z : Int32} {n : Nat} (h0 : 0 < n) (hn : n < 2 ^ 31) : (z &&& 2147483647) / 256 - (z &&& 2147483647) / 256 / nI n * nI n = drawnS z (nI n) := by
  unfold drawnS
  rw [if_neg (show ¬ nI n ≤ 0 from nI_ge (a := 0) (b := n) h0 hn)]
theorem out_step {S V : St} {nP i : Nat} (hP5 : nP ≤ 5) (h : Mnd S V ∧ Vd V nP ∧ liveG nP V = liveG nP (liveN nP S (i - 1)) ∧ outL nP S (100 - i) i = outL nP S 99 1 ∧ Eq9 0 (liveN nP S (i - 1)) V ∧ 1 ≤ i) (hi : i < 100) (c : liveG nP (liveN nP S (i - 1)) = 0) : Mnd S (liveN nP V 1) ∧ Vd (liveN nP V 1) nP ∧ liveG nP (liveN nP V 1) = liveG nP (liveN nP S (i + 1 - 1)) ∧ outL nP S (100 - (i + 1)) (i + 1) = outL nP S 99 1 ∧ Eq9 0 (liveN nP S (i + 1 - 1)) (liveN nP V 1) ∧ 1 ≤ i + 1 := by
  obtain ⟨h1, h2, h3, h4, h5, h6⟩ := h
  have e9 : Eq9 0 (liveN nP S (i + 1 - 1)) (liveN nP V 1) := by
    rw [show i + 1 - 1 = (i - 1) + 1 by omega]
    exact (Eq9.lvS h5).2
  refine ⟨h1.live nP 1, h2.live 1, (Eq9.lvS e9).1, ?_, e9, by omega⟩
  rw [← h4, show 100 - i = (100 - (i + 1)) + 1 by omega, outL, if_pos ((liveG_le0 hP5 _).mpr c)]
set_option maxHeartbeats 4000000 in
set_option maxRecDepth 20000 in
theorem con_M_passes (l : Launch) (Z : ZZ) (h : Nat) (q : Nat → Nat) (S : St) (x y : Int32) (nP : Nat) (hP : S 12 1 = nI nP) (hP5 : nP ≤ 5) (nL : Nat) (hL : S 12 0 = nI nL) (hL8 : nL ≤ 8) (o t c : Nat → Nat) (hLk : Lks S nL o t c) (hV : Vd S nP) : Con l Z yM_passes cM_passes 3 (some .int) 5 [.ref h, .int x, .int y] (wM Z h q S) (MP Z h q (mf_passes S nP x y)) := by
  refine Con.of (by decide) (Nat.le_of_ble_eq_true rfl) (fun X hX hQ => ?_)
  show G X Z (wM Z h q S) 0 [(0, .ref h), (1, .int x), (2, .int y)] []
  refine g_aload_n hX dM_passes_0 0 rfl ?_
  refine g_iload_n hX dM_passes_1 1 rfl ?_
  refine g_callV hX (con_M_isOne l Z h q S x nP hP hP5) mvM_isOne q_804 rfl (by decide) 0 rfl rfl rfl (Nat.le_of_ble_eq_true rfl) dM_passes_2 [0, 1, 2, 3, 4, 5, 6, 7, 8, 9, 10, 11, 12, 13, 14, 15, 16, 17, 18, 19, 20, 21] rfl (subM_all Z h q S) (g_fn (ws1 := wM Z h q S) (st1 := [.int (hasPersonS S x)]) (putM_all Z h q S S) rfl ?_)
  refine g_if_eq hX 16 dM_passes_5 (by decide) (fun c_5 => ?_) (fun c_5 => ?_)
  · refine g_aload_n hX dM_passes_16 0 rfl ?_
    refine g_iconst (v := (-1)) hX dM_passes_17 (by decide) ?_
    refine g_callV hX (con_M_no l Z h q S (-1) 1 (by decide) (by decide)) mvM_no q_676 rfl (by decide) 0 rfl rfl rfl (Nat.le_of_ble_eq_true rfl) dM_passes_18 [0, 1, 2, 3, 4, 5, 6, 7, 8, 9, 10, 11, 12, 13, 14, 15, 16, 17, 18, 19, 20, 21] rfl (subM_all Z h q S) (g_fn (ws1 := wM Z h q (nob S 1)) (st1 := [.int (-1)]) (putM_all Z h q S (nob S 1)) rfl ?_)
    exact r_iret hX hQ dM_passes_21 keysM (by rw [show mf_passes S nP x y = ((-1), nob S 1) from by simp [mf_passes, c_5]]; exact MP_mk)
  · refine g_aload_n hX dM_passes_8 0 rfl ?_
    refine g_iload_n hX dM_passes_9 2 rfl ?_
    refine g_callV hX (con_M_isLock l Z h q S y nL hL hL8) mvM_isLock q_796 rfl (by decide) 0 rfl rfl rfl (Nat.le_of_ble_eq_true rfl) dM_passes_10 [0, 1, 2, 3, 4, 5, 6, 7, 8, 9, 10, 11, 12, 13, 14, 15, 16, 17, 18, 19, 20, 21] rfl (subM_all Z h q S) (g_fn (ws1 := wM Z h q S) (st1 := [.int (hasLockS S y)]) (putM_all Z h q S S) rfl ?_)
    refine g_if_ne hX 22 dM_passes_13 (by decide) (fun c_13 => ?_) (fun c_13 => ?_)
    · obtain ⟨p, hp6, rfl⟩ := hasP_of hP hP5 c_5
      obtain ⟨g1, hg16, rfl⟩ := hasL_of8 hL hL8 c_13
      refine g_aload_n hX dM_passes_22 0 rfl ?_
      refine g_iload_n hX dM_passes_23 1 rfl ?_
      refine g_iload_n hX dM_passes_24 2 rfl ?_
      refine g_callV hX (con_M_canPass l Z h q S p g1 nP hP hP5 nL hL hL8 hp6 hg16) mvM_canPass q_816 rfl (by decide) 0 rfl rfl rfl (Nat.le_of_ble_eq_true rfl) dM_passes_25 [0, 1, 2, 3, 4, 5, 6, 7, 8, 9, 10, 11, 12, 13, 14, 15, 16, 17, 18, 19, 20, 21] rfl (subM_all Z h q S) (g_fn (ws1 := wM Z h q S) (st1 := [.int (canPassS S (nI p) (nI g1))]) (putM_all Z h q S S) rfl ?_)
      refine g_if_ne hX 38 dM_passes_28 (by decide) (fun c_28 => ?_) (fun c_28 => ?_)
      · have hpa := pass_pre hV hLk (by omega) hg16 hL8 c_28
        refine g_aload_n hX dM_passes_38 0 rfl ?_
        refine g_get hX 0 rfl rfl 13 (by decide) uu_M q_597 rfl rfl dM_passes_39 ?_
        refine g_aload_n hX dM_passes_42 0 rfl ?_
        refine g_get hX 0 rfl rfl 6 (by decide) uu_M q_590 rfl rfl dM_passes_43 ?_
        refine g_iload_n hX dM_passes_46 2 rfl ?_
        refine g_ald (v := (S 5 g1)) hX 6 rfl g1 (by omega) (by decide) (rfl) (rfl) dM_passes_47 ?_
        refine g_iadd (z := ((S 12 2) + (S 5 g1))) hX dM_passes_48 (rfl) ?_
        refine g_sipush (v := 999) hX dM_passes_49 (by decide) ?_
        refine g_icmp_le hX 62 dM_passes_52 (by decide) (fun c_52 => ?_) (fun c_52 => ?_)
        · refine g_aload_n hX dM_passes_62 0 rfl ?_
          refine g_iload_n hX dM_passes_63 1 rfl ?_
          refine g_iload_n hX dM_passes_64 2 rfl ?_
          refine g_callV hX (con_M_pass l Z h q S p g1 (c g1) nP hP hP5 nL hL hL8 hp6 hg16 hpa.1 hpa.2.1 hpa.2.2.1 hpa.2.2.2.1 hpa.2.2.2.2) mvM_pass q_820 rfl (by decide) 0 rfl rfl rfl (Nat.le_of_ble_eq_true rfl) dM_passes_65 [0, 1, 2, 3, 4, 5, 6, 7, 8, 9, 10, 11, 12, 13, 14, 15, 16, 17, 18, 19, 20, 21] rfl (subM_all Z h q S) (g_fn (ws1 := wM Z h q (goS nP S p g1)) (st1 := [.int (goS nP S p g1 12 3 - S 12 3)]) (putM_all Z h q S (goS nP S p g1)) rfl ?_)
          refine g_pop hX dM_passes_68 rfl ?_
          refine g_aload_n hX dM_passes_69 0 rfl ?_
          refine g_get hX 0 rfl rfl 10 (by decide) uu_M q_594 rfl rfl dM_passes_70 ?_
          refine g_iload_n hX dM_passes_73 1 rfl ?_
          refine g_ald (v := ((goS nP S p g1) 8 p)) hX 9 rfl p (by omega) (by decide) (rfl) (rfl) dM_passes_74 ?_
          exact r_iret hX hQ dM_passes_75 keysM (by rw [show mf_passes S nP (nI p) (nI g1) = (((goS nP S p g1) 8 p), goS nP S p g1) from by simp [mf_passes, c_5, c_13, c_28, c_52, nI_clamp (show p < 2 ^ 31 by omega), nI_clamp (show g1 < 2 ^ 31 by omega)]]; exact MP_mk)
        · refine g_aload_n hX dM_passes_55 0 rfl ?_
          refine g_bipush (v := (-6)) hX dM_passes_56 (by decide) ?_
          refine g_callV hX (con_M_no l Z h q S (-6) 6 (by decide) (by decide)) mvM_no q_676 rfl (by decide) 0 rfl rfl rfl (Nat.le_of_ble_eq_true rfl) dM_passes_58 [0, 1, 2, 3, 4, 5, 6, 7, 8, 9, 10, 11, 12, 13, 14, 15, 16, 17, 18, 19, 20, 21] rfl (subM_all Z h q S) (g_fn (ws1 := wM Z h q (nob S 6)) (st1 := [.int (-6)]) (putM_all Z h q S (nob S 6)) rfl ?_)
          exact r_iret hX hQ dM_passes_61 keysM (by rw [show mf_passes S nP (nI p) (nI g1) = ((-6), nob S 6) from by simp [mf_passes, c_5, c_13, c_28, c_52, nI_clamp (show p < 2 ^ 31 by omega), nI_clamp (show g1 < 2 ^ 31 by omega)]]; exact MP_mk)
      · refine g_aload_n hX dM_passes_31 0 rfl ?_
        refine g_bipush (v := (-3)) hX dM_passes_32 (by decide) ?_
        refine g_callV hX (con_M_no l Z h q S (-3) 3 (by decide) (by decide)) mvM_no q_676 rfl (by decide) 0 rfl rfl rfl (Nat.le_of_ble_eq_true rfl) dM_passes_34 [0, 1, 2, 3, 4, 5, 6, 7, 8, 9, 10, 11, 12, 13, 14, 15, 16, 17, 18, 19, 20, 21] rfl (subM_all Z h q S) (g_fn (ws1 := wM Z h q (nob S 3)) (st1 := [.int (-3)]) (putM_all Z h q S (nob S 3)) rfl ?_)
        exact r_iret hX hQ dM_passes_37 keysM (by rw [show mf_passes S nP (nI p) (nI g1) = ((-3), nob S 3) from by simp [mf_passes, c_5, c_13, c_28, nI_clamp (show p < 2 ^ 31 by omega), nI_clamp (show g1 < 2 ^ 31 by omega)]]; exact MP_mk)
    · refine g_aload_n hX dM_passes_16 0 rfl ?_
      refine g_iconst (v := (-1)) hX dM_passes_17 (by decide) ?_
      refine g_callV hX (con_M_no l Z h q S (-1) 1 (by decide) (by decide)) mvM_no q_676 rfl (by decide) 0 rfl rfl rfl (Nat.le_of_ble_eq_true rfl) dM_passes_18 [0, 1, 2, 3, 4, 5, 6, 7, 8, 9, 10, 11, 12, 13, 14, 15, 16, 17, 18, 19, 20, 21] rfl (subM_all Z h q S) (g_fn (ws1 := wM Z h q (nob S 1)) (st1 := [.int (-1)]) (putM_all Z h q S (nob S 1)) rfl ?_)
      exact r_iret hX hQ dM_passes_21 keysM (by rw [show mf_passes S nP x y = ((-1), nob S 1) from by simp [mf_passes, c_5, c_13]]; exact MP_mk)
set_option maxHeartbeats 4000000 in
set_option maxRecDepth 20000 in
theorem con_M_count (l : Launch) (Z : ZZ) (h : Nat) (q : Nat → Nat) (S : St) (w : Int32) : Con l Z yM_count cM_count 4 (some .int) 1 [.ref h, .int w] (wM Z h q S) (MP Z h q (mf_count S w)) := by
  refine Con.of (by decide) (Nat.le_of_ble_eq_true rfl) (fun X hX hQ => ?_)
  show G X Z (wM Z h q S) 0 [(0, .ref h), (1, .int w)] []
  refine g_iconst (v := 0) hX dM_count_0 (by decide) ?_
  refine g_istore_n (lv1 := [(0, .ref h), (1, .int w), (2, .int 0)]) hX dM_count_1 (by decide) [1, 2, 0] rfl ?_
  refine g_iload_n hX dM_count_2 1 rfl ?_
  by_cases c_3_0 : w = 0
  · refine g_tabIn (off := 45) hX 48 dM_count_3 (by rw [c_3_0]; decide) (by rw [c_3_0]; decide) (by rw [c_3_0]; decide) (by decide) ?_
    refine g_aload_n hX dM_count_48 0 rfl ?_
    refine g_get hX 0 rfl rfl 2 (by decide) uu_M q_586 rfl rfl dM_count_49 ?_
    exact r_iret hX hQ dM_count_52 keysM (by rw [show mf_count S w = ((S 12 0), S) from by simp [mf_count, c_3_0]]; exact MP_mk)
  by_cases c_3_1 : w = 1
  · refine g_tabIn (off := 50) hX 53 dM_count_3 (by rw [c_3_1]; decide) (by rw [c_3_1]; decide) (by rw [c_3_1]; decide) (by decide) ?_
    refine g_aload_n hX dM_count_53 0 rfl ?_
    refine g_get hX 0 rfl rfl 8 (by decide) uu_M q_592 rfl rfl dM_count_54 ?_
    exact r_iret hX hQ dM_count_57 keysM (by rw [show mf_count S w = ((S 12 1), S) from by simp [mf_count, c_3_0, c_3_1]]; exact MP_mk)
  by_cases c_3_2 : w = 2
  · refine g_tabIn (off := 55) hX 58 dM_count_3 (by rw [c_3_2]; decide) (by rw [c_3_2]; decide) (by rw [c_3_2]; decide) (by decide) ?_
    refine g_aload_n hX dM_count_58 0 rfl ?_
    refine g_get hX 0 rfl rfl 13 (by decide) uu_M q_597 rfl rfl dM_count_59 ?_
    exact r_iret hX hQ dM_count_62 keysM (by rw [show mf_count S w = ((S 12 2), S) from by simp [mf_count, c_3_0, c_3_1, c_3_2]]; exact MP_mk)
  by_cases c_3_3 : w = 3
  · refine g_tabIn (off := 60) hX 63 dM_count_3 (by rw [c_3_3]; decide) (by rw [c_3_3]; decide) (by rw [c_3_3]; decide) (by decide) ?_
    refine g_iconst (v := 0) hX dM_count_63 (by decide) ?_
    refine g_istore_n (lv1 := [(0, .ref h), (1, .int w), (2, .int 0), (3, .int 0)]) hX dM_count_64 (by decide) [1, 2, 3, 0] rfl ?_
    have hL_65 : ∀ i0, i0 ≤ 6 → G X Z (wM Z h q S) 65 [(0, .ref h), (1, .int w), (2, .int (smI (S 0) i0)), (3, .int (nI i0))] [] := by
      refine loopUp _ 6 ?_ (fun i0 hi_i0 ih_i0 => ?_)
      · skip
        refine g_iload_n hX dM_count_65 3 rfl ?_
        refine g_bipush (v := 6) hX dM_count_66 (by decide) ?_
        refine g_icmp_ge hX 86 dM_count_68 (by decide) (fun c_68 => ?_) (fun c_68 => absurd (nI_le (a := 6) (b := 6) (Nat.le_refl _) (by omega)) c_68)
        refine g_iload_n hX dM_count_86 2 rfl ?_
        exact r_iret hX hQ dM_count_87 keysM (by rw [show mf_count S w = ((smI (S 0) 6), S) from by simp [mf_count, c_3_0, c_3_1, c_3_2, c_3_3, c_68]]; exact MP_mk)
      · skip
        refine g_iload_n hX dM_count_65 3 rfl ?_
        refine g_bipush (v := 6) hX dM_count_66 (by decide) ?_
        refine g_icmp_ge hX 86 dM_count_68 (by decide) (fun c_68 => absurd c_68 (nI_ge (a := i0) (b := 6) hi_i0 (by omega))) (fun c_68 => ?_)
        refine g_iload_n hX dM_count_71 2 rfl ?_
        refine g_aload_n hX dM_count_72 0 rfl ?_
        refine g_get hX 0 rfl rfl 0 (by decide) uu_M q_584 rfl rfl dM_count_73 ?_
        refine g_iload_n hX dM_count_76 3 rfl ?_
        refine g_ald (v := (S 0 i0)) hX 1 rfl i0 (by omega) (by decide) (rfl) (rfl) dM_count_77 ?_
        refine g_iadd (z := ((smI (S 0) i0) + (S 0 i0))) hX dM_count_78 (rfl) ?_
        refine g_istore_n (lv1 := [(0, .ref h), (1, .int w), (2, .int ((smI (S 0) i0) + (S 0 i0))), (3, .int (nI i0))]) hX dM_count_79 (by decide) [1, 2, 0, 3] rfl ?_
        refine g_iinc (v := (nI (i0 + 1))) (lv1 := [(0, .ref h), (1, .int w), (2, .int ((smI (S 0) i0) + (S 0 i0))), (3, .int (nI (i0 + 1)))]) hX dM_count_80 3 rfl (inc_nat _) (by decide) [1, 2, 3, 0] rfl ?_
        refine g_goto hX 65 dM_count_83 (by decide) ?_
        have e_2 : ((smI (S 0) i0) + (S 0 i0)) = (smI (S 0) (i0 + 1)) := by rfl
        exact g_eq (rfl) (by rw [e_2]) rfl ih_i0
    exact hL_65 0 (Nat.zero_le _)
  by_cases c_3_4 : w = 4
  · refine g_tabIn (off := 85) hX 88 dM_count_3 (by rw [c_3_4]; decide) (by rw [c_3_4]; decide) (by rw [c_3_4]; decide) (by decide) ?_
    refine g_iconst (v := 0) hX dM_count_88 (by decide) ?_
    refine g_istore_n (lv1 := [(0, .ref h), (1, .int w), (2, .int 0), (3, .int 0)]) hX dM_count_89 (by decide) [1, 2, 3, 0] rfl ?_
    have hL_90 : ∀ i1, i1 ≤ 6 → G X Z (wM Z h q S) 90 [(0, .ref h), (1, .int w), (2, .int (smI (S 1) i1)), (3, .int (nI i1))] [] := by
      refine loopUp _ 6 ?_ (fun i1 hi_i1 ih_i1 => ?_)
      · skip
        refine g_iload_n hX dM_count_90 3 rfl ?_
        refine g_bipush (v := 6) hX dM_count_91 (by decide) ?_
        refine g_icmp_ge hX 111 dM_count_93 (by decide) (fun c_93 => ?_) (fun c_93 => absurd (nI_le (a := 6) (b := 6) (Nat.le_refl _) (by omega)) c_93)
        refine g_iload_n hX dM_count_111 2 rfl ?_
        exact r_iret hX hQ dM_count_112 keysM (by rw [show mf_count S w = ((smI (S 1) 6), S) from by simp [mf_count, c_3_0, c_3_1, c_3_2, c_3_3, c_3_4, c_93]]; exact MP_mk)
      · skip
        refine g_iload_n hX dM_count_90 3 rfl ?_
        refine g_bipush (v := 6) hX dM_count_91 (by decide) ?_
        refine g_icmp_ge hX 111 dM_count_93 (by decide) (fun c_93 => absurd c_93 (nI_ge (a := i1) (b := 6) hi_i1 (by omega))) (fun c_93 => ?_)
        refine g_iload_n hX dM_count_96 2 rfl ?_
        refine g_aload_n hX dM_count_97 0 rfl ?_
        refine g_get hX 0 rfl rfl 1 (by decide) uu_M q_585 rfl rfl dM_count_98 ?_
        refine g_iload_n hX dM_count_101 3 rfl ?_
        refine g_ald (v := (S 1 i1)) hX 2 rfl i1 (by omega) (by decide) (rfl) (rfl) dM_count_102 ?_
        refine g_iadd (z := ((smI (S 1) i1) + (S 1 i1))) hX dM_count_103 (rfl) ?_
        refine g_istore_n (lv1 := [(0, .ref h), (1, .int w), (2, .int ((smI (S 1) i1) + (S 1 i1))), (3, .int (nI i1))]) hX dM_count_104 (by decide) [1, 2, 0, 3] rfl ?_
        refine g_iinc (v := (nI (i1 + 1))) (lv1 := [(0, .ref h), (1, .int w), (2, .int ((smI (S 1) i1) + (S 1 i1))), (3, .int (nI (i1 + 1)))]) hX dM_count_105 3 rfl (inc_nat _) (by decide) [1, 2, 3, 0] rfl ?_
        refine g_goto hX 90 dM_count_108 (by decide) ?_
        have e_2 : ((smI (S 1) i1) + (S 1 i1)) = (smI (S 1) (i1 + 1)) := by rfl
        exact g_eq (rfl) (by rw [e_2]) rfl ih_i1
    exact hL_90 0 (Nat.zero_le _)
  by_cases c_3_5 : w = 5
  · refine g_tabIn (off := 110) hX 113 dM_count_3 (by rw [c_3_5]; decide) (by rw [c_3_5]; decide) (by rw [c_3_5]; decide) (by decide) ?_
    refine g_aload_n hX dM_count_113 0 rfl ?_
    refine g_get hX 0 rfl rfl 15 (by decide) uu_M q_599 rfl rfl dM_count_114 ?_
    exact r_iret hX hQ dM_count_117 keysM (by rw [show mf_count S w = ((S 12 3), S) from by simp [mf_count, c_3_0, c_3_1, c_3_2, c_3_3, c_3_4, c_3_5]]; exact MP_mk)
  by_cases c_3_6 : w = 6
  · refine g_tabIn (off := 115) hX 118 dM_count_3 (by rw [c_3_6]; decide) (by rw [c_3_6]; decide) (by rw [c_3_6]; decide) (by decide) ?_
    refine g_aload_n hX dM_count_118 0 rfl ?_
    refine g_get hX 0 rfl rfl 20 (by decide) uu_M q_604 rfl rfl dM_count_119 ?_
    exact r_iret hX hQ dM_count_122 keysM (by rw [show mf_count S w = ((S 12 6), S) from by simp [mf_count, c_3_0, c_3_1, c_3_2, c_3_3, c_3_4, c_3_5, c_3_6]]; exact MP_mk)
  by_cases c_3_7 : w = 7
  · refine g_tabIn (off := 120) hX 123 dM_count_3 (by rw [c_3_7]; decide) (by rw [c_3_7]; decide) (by rw [c_3_7]; decide) (by decide) ?_
    refine g_aload_n hX dM_count_123 0 rfl ?_
    refine g_get hX 0 rfl rfl 16 (by decide) uu_M q_600 rfl rfl dM_count_124 ?_
    exact r_iret hX hQ dM_count_127 keysM (by rw [show mf_count S w = ((S 12 4), S) from by simp [mf_count, c_3_0, c_3_1, c_3_2, c_3_3, c_3_4, c_3_5, c_3_6, c_3_7]]; exact MP_mk)
  refine g_tabOut hX 128 dM_count_3 (by have := ne_toInt c_3_0 (z := 0) (by decide); have := ne_toInt c_3_1 (z := 1) (by decide); have := ne_toInt c_3_2 (z := 2) (by decide); have := ne_toInt c_3_3 (z := 3) (by decide); have := ne_toInt c_3_4 (z := 4) (by decide); have := ne_toInt c_3_5 (z := 5) (by decide); have := ne_toInt c_3_6 (z := 6) (by decide); have := ne_toInt c_3_7 (z := 7) (by decide); omega) (by decide) ?_
  refine g_iload_n hX dM_count_128 1 rfl ?_
  refine g_bipush (v := 11) hX dM_count_129 (by decide) ?_
  refine g_bipush (v := 16) hX dM_count_131 (by decide) ?_
  refine g_callS hX (con_M_within l Z w 11 16) msM_within q_762 rfl (by decide) rfl (Nat.le_of_ble_eq_true rfl) dM_count_133 [] rfl (rfl) (g_fn (ws1 := wM Z h q S) (st1 := [.int (wthS w 11 16)]) (rfl) rfl ?_)
  refine g_if_eq hX 151 dM_count_136 (by decide) (fun c_136 => ?_) (fun c_136 => ?_)
  · refine g_bipush (v := (-9)) hX dM_count_151 (by decide) ?_
    exact r_iret hX hQ dM_count_153 keysM (by rw [show mf_count S w = ((-9), S) from by simp [mf_count, c_3_0, c_3_1, c_3_2, c_3_3, c_3_4, c_3_5, c_3_6, c_3_7, c_136]]; exact MP_mk)
  · obtain ⟨j1, hj1, hj6, rfl⟩ := wth_of c_136
    refine g_aload_n hX dM_count_139 0 rfl ?_
    refine g_get hX 0 rfl rfl 22 (by decide) uu_M q_606 rfl rfl dM_count_140 ?_
    refine g_iload_n hX dM_count_143 1 rfl ?_
    refine g_bipush (v := 10) hX dM_count_144 (by decide) ?_
    refine g_isub (z := (nI (j1 + 10 - 10))) hX dM_count_146 (pk_sub (a := j1 + 10) (b := 10) (by omega)) ?_
    refine g_ald (v := (S 16 (j1 + 10 - 10))) hX 16 rfl (j1 + 10 - 10) (by omega) (by decide) (rfl) (rfl) dM_count_147 ?_
    refine g_goto hX 153 dM_count_148 (by decide) ?_
    exact r_iret hX hQ dM_count_153 keysM (by rw [show mf_count S (nI (j1 + 10)) = ((S 16 (j1 + 10 - 10)), S) from by simp [mf_count, c_3_0, c_3_1, c_3_2, c_3_3, c_3_4, c_3_5, c_3_6, c_3_7, c_136, show cl (nI (j1 + 10)) = j1 + 10 from nI_clamp (by omega)]]; exact MP_mk)
set_option maxHeartbeats 4000000 in
set_option maxRecDepth 20000 in
theorem con_M_air (l : Launch) (Z : ZZ) (h : Nat) (q : Nat → Nat) (S : St) (x v : Int32) (nP : Nat) (hP : S 12 1 = nI nP) (hP5 : nP ≤ 5) (nL : Nat) (hV : Vd S nP) : Con l Z yM_air cM_air 4 (some .int) 4 [.ref h, .int x, .int v] (wM Z h q S) (MIq Z h q nL (mf_air S nP x v)) := by
  refine Con.of (by decide) (Nat.le_of_ble_eq_true rfl) (fun X hX hQ => ?_)
  show G X Z (wM Z h q S) 0 [(0, .ref h), (1, .int x), (2, .int v)] []
  refine g_iload_n hX dM_air_0 1 rfl ?_
  refine g_callS hX (con_M_isRoom l Z x) msM_isRoom q_777 rfl (by decide) rfl (Nat.le_of_ble_eq_true rfl) dM_air_1 [] rfl (rfl) (g_fn (ws1 := wM Z h q S) (st1 := [.int (isRoomS x)]) (rfl) rfl ?_)
  refine g_if_ne hX 13 dM_air_4 (by decide) (fun c_4 => ?_) (fun c_4 => ?_)
  · obtain ⟨r, hr6, rfl⟩ := isRoom_of c_4
    refine g_iload_n hX dM_air_13 2 rfl ?_
    refine g_if_ge hX 24 dM_air_14 (by decide) (fun c_14 => ?_) (fun c_14 => ?_)
    · refine g_iload_n hX dM_air_24 2 rfl ?_
      refine g_bipush (v := 99) hX dM_air_25 (by decide) ?_
      refine g_icmp_le hX 37 dM_air_27 (by decide) (fun c_27 => ?_) (fun c_27 => ?_)
      · obtain ⟨n1, hn10, hn19, rfl⟩ := mins_of2 (a := 0) (b := 99) (na := 0) (nb := 99) rfl rfl (by decide) (by decide) c_14 c_27
        refine g_aload_n hX dM_air_37 0 rfl ?_
        refine g_aload_n hX dM_air_38 0 rfl ?_
        refine g_get hX 0 rfl rfl 25 (by decide) uu_M q_609 rfl rfl dM_air_39 ?_
        refine g_callV hX (con_M_keep_18 l Z h q S) mvM_keep q_765 rfl (by decide) 0 rfl rfl rfl (Nat.le_of_ble_eq_true rfl) dM_air_42 [0, 1, 2, 3, 4, 5, 6, 7, 8, 9, 10, 11, 12, 13, 14, 15, 16, 17, 18, 19, 20, 21] rfl (subM_all Z h q S) (g_fn (ws1 := wM Z h q (sr S 18 (pk S))) (st1 := []) (putM_all Z h q S (sr S 18 (pk S))) rfl ?_)
        refine g_aload_n hX dM_air_45 0 rfl ?_
        refine g_iload_n hX dM_air_46 2 rfl ?_
        refine g_callV hX (con_M_goBy l Z h q (sr S 18 (pk S)) n1 (by omega) nP (by rw [sr_ne _ _ (by decide)]; exact hP) hP5 (hV.cong (sr_ne _ _ (by decide)) (sr_ne _ _ (by decide)) (sr_ne _ _ (by decide)))) mvM_goBy q_824 rfl (by decide) 0 rfl rfl rfl (Nat.le_of_ble_eq_true rfl) dM_air_47 [0, 1, 2, 3, 4, 5, 6, 7, 8, 9, 10, 11, 12, 13, 14, 15, 16, 17, 18, 19, 20, 21] rfl (subM_all Z h q (sr S 18 (pk S))) (g_fn (ws1 := wM Z h q (liveN nP (sr S 18 (pk S)) n1)) (st1 := [.int (liveN nP (sr S 18 (pk S)) n1 12 3 - (sr S 18 (pk S)) 12 3)]) (putM_all Z h q (sr S 18 (pk S)) (liveN nP (sr S 18 (pk S)) n1)) rfl ?_)
        refine g_pop hX dM_air_50 rfl ?_
        refine g_aload_n hX dM_air_51 0 rfl ?_
        refine g_get hX 0 rfl rfl 0 (by decide) uu_M q_584 rfl rfl dM_air_52 ?_
        refine g_iload_n hX dM_air_55 1 rfl ?_
        refine g_ald (v := (liveN nP S n1 0 r)) hX 1 rfl r (by omega) (by decide) (rfl) (congrFun (((Eq9.mem 0 S).live n1).1 0 (Or.inl rfl)) r) dM_air_56 ?_
        refine g_istore_n (lv1 := [(0, .ref h), (1, .int (nI r)), (2, .int (nI n1)), (3, .int (liveN nP S n1 0 r))]) hX dM_air_57 (by decide) [1, 2, 3, 0] rfl ?_
        refine g_aload_n hX dM_air_58 0 rfl ?_
        refine g_aload_n hX dM_air_59 0 rfl ?_
        refine g_get hX 0 rfl rfl 25 (by decide) uu_M q_609 rfl rfl dM_air_60 ?_
        refine g_callV hX (con_M_again_18 l Z h q (liveN nP (sr S 18 (pk S)) n1)) mvM_again q_769 rfl (by decide) 0 rfl rfl rfl (Nat.le_of_ble_eq_true rfl) dM_air_63 [0, 1, 2, 3, 4, 5, 6, 7, 8, 9, 10, 11, 12, 13, 14, 15, 16, 17, 18, 19, 20, 21] rfl (subM_all Z h q (liveN nP (sr S 18 (pk S)) n1)) (g_fn (ws1 := wM Z h q (up (liveN nP (sr S 18 (pk S)) n1) ((liveN nP (sr S 18 (pk S)) n1) 18))) (st1 := []) (putM_all Z h q (liveN nP (sr S 18 (pk S)) n1) (up (liveN nP (sr S 18 (pk S)) n1) ((liveN nP (sr S 18 (pk S)) n1) 18))) rfl ?_)
        refine g_same (ws1 := wM Z h q (sr (sr S 18 (pk S)) 14 ((liveN nP (sr S 18 (pk S)) n1) 14))) (Mnd.back ((Mnd.start S).live nP n1) Z h q) ?_
        refine g_iload_n hX dM_air_66 3 rfl ?_
        exact r_iret hX hQ dM_air_67 keysM (by rw [show mf_air S nP (nI r) (nI n1) = ((liveN nP S n1 0 r), S) from by simp [mf_air, c_4, c_14, c_27, nI_clamp (show r < 2 ^ 31 by omega), nI_clamp (show n1 < 2 ^ 31 by omega)]]; exact MIq_mk (Scr.back _ _ _ _))
      · refine g_aload_n hX dM_air_30 0 rfl ?_
        refine g_bipush (v := (-6)) hX dM_air_31 (by decide) ?_
        refine g_callV hX (con_M_no l Z h q S (-6) 6 (by decide) (by decide)) mvM_no q_676 rfl (by decide) 0 rfl rfl rfl (Nat.le_of_ble_eq_true rfl) dM_air_33 [0, 1, 2, 3, 4, 5, 6, 7, 8, 9, 10, 11, 12, 13, 14, 15, 16, 17, 18, 19, 20, 21] rfl (subM_all Z h q S) (g_fn (ws1 := wM Z h q (nob S 6)) (st1 := [.int (-6)]) (putM_all Z h q S (nob S 6)) rfl ?_)
        exact r_iret hX hQ dM_air_36 keysM (by rw [show mf_air S nP (nI r) v = ((-6), nob S 6) from by simp [mf_air, c_4, c_14, c_27, nI_clamp (show r < 2 ^ 31 by omega)]]; exact MIq_mk (Scr.rf))
    · refine g_aload_n hX dM_air_17 0 rfl ?_
      refine g_bipush (v := (-4)) hX dM_air_18 (by decide) ?_
      refine g_callV hX (con_M_no l Z h q S (-4) 4 (by decide) (by decide)) mvM_no q_676 rfl (by decide) 0 rfl rfl rfl (Nat.le_of_ble_eq_true rfl) dM_air_20 [0, 1, 2, 3, 4, 5, 6, 7, 8, 9, 10, 11, 12, 13, 14, 15, 16, 17, 18, 19, 20, 21] rfl (subM_all Z h q S) (g_fn (ws1 := wM Z h q (nob S 4)) (st1 := [.int (-4)]) (putM_all Z h q S (nob S 4)) rfl ?_)
      exact r_iret hX hQ dM_air_23 keysM (by rw [show mf_air S nP (nI r) v = ((-4), nob S 4) from by simp [mf_air, c_4, c_14, nI_clamp (show r < 2 ^ 31 by omega)]]; exact MIq_mk (Scr.rf))
  · refine g_aload_n hX dM_air_7 0 rfl ?_
    refine g_iconst (v := (-1)) hX dM_air_8 (by decide) ?_
    refine g_callV hX (con_M_no l Z h q S (-1) 1 (by decide) (by decide)) mvM_no q_676 rfl (by decide) 0 rfl rfl rfl (Nat.le_of_ble_eq_true rfl) dM_air_9 [0, 1, 2, 3, 4, 5, 6, 7, 8, 9, 10, 11, 12, 13, 14, 15, 16, 17, 18, 19, 20, 21] rfl (subM_all Z h q S) (g_fn (ws1 := wM Z h q (nob S 1)) (st1 := [.int (-1)]) (putM_all Z h q S (nob S 1)) rfl ?_)
    exact r_iret hX hQ dM_air_12 keysM (by rw [show mf_air S nP x v = ((-1), nob S 1) from by simp [mf_air, c_4]]; exact MIq_mk (Scr.rf))
set_option maxHeartbeats 4000000 in
set_option maxRecDepth 20000 in
theorem con_M_gasps (l : Launch) (Z : ZZ) (h : Nat) (q : Nat → Nat) (S : St) (v : Int32) (nP : Nat) (hP : S 12 1 = nI nP) (hP5 : nP ≤ 5) (nL : Nat) (hV : Vd S nP) : Con l Z yM_gasps cM_gasps 3 (some .int) 4 [.ref h, .int v] (wM Z h q S) (MIq Z h q nL (mf_gasps S nP v)) := by
  refine Con.of (by decide) (Nat.le_of_ble_eq_true rfl) (fun X hX hQ => ?_)
  show G X Z (wM Z h q S) 0 [(0, .ref h), (1, .int v)] []
  refine g_iload_n hX dM_gasps_0 1 rfl ?_
  refine g_if_ge hX 11 dM_gasps_1 (by decide) (fun c_1 => ?_) (fun c_1 => ?_)
  · refine g_iload_n hX dM_gasps_11 1 rfl ?_
    refine g_bipush (v := 99) hX dM_gasps_12 (by decide) ?_
    refine g_icmp_le hX 24 dM_gasps_14 (by decide) (fun c_14 => ?_) (fun c_14 => ?_)
    · obtain ⟨n1, hn10, hn19, rfl⟩ := mins_of2 (a := 0) (b := 99) (na := 0) (nb := 99) rfl rfl (by decide) (by decide) c_1 c_14
      refine g_aload_n hX dM_gasps_24 0 rfl ?_
      refine g_aload_n hX dM_gasps_25 0 rfl ?_
      refine g_get hX 0 rfl rfl 25 (by decide) uu_M q_609 rfl rfl dM_gasps_26 ?_
      refine g_callV hX (con_M_keep_18 l Z h q S) mvM_keep q_765 rfl (by decide) 0 rfl rfl rfl (Nat.le_of_ble_eq_true rfl) dM_gasps_29 [0, 1, 2, 3, 4, 5, 6, 7, 8, 9, 10, 11, 12, 13, 14, 15, 16, 17, 18, 19, 20, 21] rfl (subM_all Z h q S) (g_fn (ws1 := wM Z h q (sr S 18 (pk S))) (st1 := []) (putM_all Z h q S (sr S 18 (pk S))) rfl ?_)
      refine g_aload_n hX dM_gasps_32 0 rfl ?_
      refine g_iload_n hX dM_gasps_33 1 rfl ?_
      refine g_callV hX (con_M_goBy l Z h q (sr S 18 (pk S)) n1 (by omega) nP (by rw [sr_ne _ _ (by decide)]; exact hP) hP5 (hV.cong (sr_ne _ _ (by decide)) (sr_ne _ _ (by decide)) (sr_ne _ _ (by decide)))) mvM_goBy q_824 rfl (by decide) 0 rfl rfl rfl (Nat.le_of_ble_eq_true rfl) dM_gasps_34 [0, 1, 2, 3, 4, 5, 6, 7, 8, 9, 10, 11, 12, 13, 14, 15, 16, 17, 18, 19, 20, 21] rfl (subM_all Z h q (sr S 18 (pk S))) (g_fn (ws1 := wM Z h q (liveN nP (sr S 18 (pk S)) n1)) (st1 := [.int (liveN nP (sr S 18 (pk S)) n1 12 3 - (sr S 18 (pk S)) 12 3)]) (putM_all Z h q (sr S 18 (pk S)) (liveN nP (sr S 18 (pk S)) n1)) rfl ?_)
      refine g_top (y := (liveN nP S n1 12 3 - S 12 3)) (gsp_eq (Eq9.mem 0 S)) ?_
      refine g_istore_n (lv1 := [(0, .ref h), (1, .int (nI n1)), (2, .int (liveN nP S n1 12 3 - S 12 3))]) hX dM_gasps_37 (by decide) [1, 2, 0] rfl ?_
      refine g_aload_n hX dM_gasps_38 0 rfl ?_
      refine g_aload_n hX dM_gasps_39 0 rfl ?_
      refine g_get hX 0 rfl rfl 25 (by decide) uu_M q_609 rfl rfl dM_gasps_40 ?_
      refine g_callV hX (con_M_again_18 l Z h q (liveN nP (sr S 18 (pk S)) n1)) mvM_again q_769 rfl (by decide) 0 rfl rfl rfl (Nat.le_of_ble_eq_true rfl) dM_gasps_43 [0, 1, 2, 3, 4, 5, 6, 7, 8, 9, 10, 11, 12, 13, 14, 15, 16, 17, 18, 19, 20, 21] rfl (subM_all Z h q (liveN nP (sr S 18 (pk S)) n1)) (g_fn (ws1 := wM Z h q (up (liveN nP (sr S 18 (pk S)) n1) ((liveN nP (sr S 18 (pk S)) n1) 18))) (st1 := []) (putM_all Z h q (liveN nP (sr S 18 (pk S)) n1) (up (liveN nP (sr S 18 (pk S)) n1) ((liveN nP (sr S 18 (pk S)) n1) 18))) rfl ?_)
      refine g_same (ws1 := wM Z h q (sr (sr S 18 (pk S)) 14 ((liveN nP (sr S 18 (pk S)) n1) 14))) (Mnd.back ((Mnd.start S).live nP n1) Z h q) ?_
      refine g_iload_n hX dM_gasps_46 2 rfl ?_
      exact r_iret hX hQ dM_gasps_47 keysM (by rw [show mf_gasps S nP (nI n1) = ((liveN nP S n1 12 3 - S 12 3), S) from by simp [mf_gasps, c_1, c_14, nI_clamp (show n1 < 2 ^ 31 by omega)]]; exact MIq_mk (Scr.back _ _ _ _))
    · refine g_aload_n hX dM_gasps_17 0 rfl ?_
      refine g_bipush (v := (-6)) hX dM_gasps_18 (by decide) ?_
      refine g_callV hX (con_M_no l Z h q S (-6) 6 (by decide) (by decide)) mvM_no q_676 rfl (by decide) 0 rfl rfl rfl (Nat.le_of_ble_eq_true rfl) dM_gasps_20 [0, 1, 2, 3, 4, 5, 6, 7, 8, 9, 10, 11, 12, 13, 14, 15, 16, 17, 18, 19, 20, 21] rfl (subM_all Z h q S) (g_fn (ws1 := wM Z h q (nob S 6)) (st1 := [.int (-6)]) (putM_all Z h q S (nob S 6)) rfl ?_)
      exact r_iret hX hQ dM_gasps_23 keysM (by rw [show mf_gasps S nP v = ((-6), nob S 6) from by simp [mf_gasps, c_1, c_14]]; exact MIq_mk (Scr.rf))
  · refine g_aload_n hX dM_gasps_4 0 rfl ?_
    refine g_bipush (v := (-4)) hX dM_gasps_5 (by decide) ?_
    refine g_callV hX (con_M_no l Z h q S (-4) 4 (by decide) (by decide)) mvM_no q_676 rfl (by decide) 0 rfl rfl rfl (Nat.le_of_ble_eq_true rfl) dM_gasps_7 [0, 1, 2, 3, 4, 5, 6, 7, 8, 9, 10, 11, 12, 13, 14, 15, 16, 17, 18, 19, 20, 21] rfl (subM_all Z h q S) (g_fn (ws1 := wM Z h q (nob S 4)) (st1 := [.int (-4)]) (putM_all Z h q S (nob S 4)) rfl ?_)
    exact r_iret hX hQ dM_gasps_10 keysM (by rw [show mf_gasps S nP v = ((-4), nob S 4) from by simp [mf_gasps, c_1]]; exact MIq_mk (Scr.rf))
set_option maxHeartbeats 4000000 in
set_option maxRecDepth 20000 in
theorem con_M_out (l : Launch) (Z : ZZ) (h : Nat) (q : Nat → Nat) (S : St) (nP : Nat) (hP : S 12 1 = nI nP) (hP5 : nP ≤ 5) (nL : Nat) (hV : Vd S nP) : Con l Z yM_out cM_out 2 (some .int) 4 [.ref h] (wM Z h q S) (MIq Z h q nL (outL nP S 99 1, S)) := by
  refine Con.of (by decide) (Nat.le_of_ble_eq_true rfl) (fun X hX hQ => ?_)
  show G X Z (wM Z h q S) 0 [(0, .ref h)] []
  refine g_aload_n hX dM_out_0 0 rfl ?_
  refine g_aload_n hX dM_out_1 0 rfl ?_
  refine g_get hX 0 rfl rfl 25 (by decide) uu_M q_609 rfl rfl dM_out_2 ?_
  refine g_callV hX (con_M_keep_18 l Z h q S) mvM_keep q_765 rfl (by decide) 0 rfl rfl rfl (Nat.le_of_ble_eq_true rfl) dM_out_5 [0, 1, 2, 3, 4, 5, 6, 7, 8, 9, 10, 11, 12, 13, 14, 15, 16, 17, 18, 19, 20, 21] rfl (subM_all Z h q S) (g_fn (ws1 := wM Z h q (sr S 18 (pk S))) (st1 := []) (putM_all Z h q S (sr S 18 (pk S))) rfl ?_)
  refine g_iconst (v := 1) hX dM_out_8 (by decide) ?_
  refine g_istore_n (lv1 := [(0, .ref h), (1, .int 1)]) hX dM_out_9 (by decide) [1, 0] rfl ?_
  have hL_10 : ∀ i0, i0 ≤ 100 → ∀ (V0 : St), Mnd S V0 ∧ Vd V0 nP ∧ liveG nP V0 = liveG nP (liveN nP S (i0 - 1)) ∧ outL nP S (100 - i0) i0 = outL nP S 99 1 ∧ Eq9 0 (liveN nP S (i0 - 1)) V0 ∧ 1 ≤ i0 → G X Z (wM Z h q V0) 10 [(0, .ref h), (1, .int (nI i0))] [] := by
    refine loopUp _ 100 ?_ (fun i0 hi_i0 ih_i0 => ?_)
    · intro V0 hq_i0
      refine g_iload_n hX dM_out_10 1 rfl ?_
      refine g_bipush (v := 100) hX dM_out_11 (by decide) ?_
      refine g_icmp_ge hX 30 dM_out_13 (by decide) (fun c_13 => ?_) (fun c_13 => absurd (by decide) c_13)
      refine g_aload_n hX dM_out_30 0 rfl ?_
      refine g_aload_n hX dM_out_31 0 rfl ?_
      refine g_get hX 0 rfl rfl 25 (by decide) uu_M q_609 rfl rfl dM_out_32 ?_
      refine g_callV hX (con_M_again_18 l Z h q V0) mvM_again q_769 rfl (by decide) 0 rfl rfl rfl (Nat.le_of_ble_eq_true rfl) dM_out_35 [0, 1, 2, 3, 4, 5, 6, 7, 8, 9, 10, 11, 12, 13, 14, 15, 16, 17, 18, 19, 20, 21] rfl (subM_all Z h q V0) (g_fn (ws1 := wM Z h q (up V0 (V0 18))) (st1 := []) (putM_all Z h q V0 (up V0 (V0 18))) rfl ?_)
      refine g_same (ws1 := wM Z h q (sr (sr S 18 (pk S)) 14 (V0 14))) (Mnd.back hq_i0.1 Z h q) ?_
      refine g_iload_n hX dM_out_38 1 rfl ?_
      refine g_bipush (v := 100) hX dM_out_39 (by decide) ?_
      refine g_icmp_ge hX 48 dM_out_41 (by decide) (fun c_41 => ?_) (fun c_41 => absurd (by decide) c_41)
      refine g_bipush (v := (-9)) hX dM_out_48 (by decide) ?_
      exact r_iret hX hQ dM_out_50 keysM (by rw [show outL nP S 99 1 = (-9) from (by show outL nP S 99 1 = _; rw [← hq_i0.2.2.2.1, Nat.sub_self]; rfl)]; exact MIq_mk (Scr.back _ _ _ _))
    · intro V0 hq_i0
      refine g_iload_n hX dM_out_10 1 rfl ?_
      refine g_bipush (v := 100) hX dM_out_11 (by decide) ?_
      refine g_icmp_ge hX 30 dM_out_13 (by decide) (fun c_13 => absurd c_13 (nI_ge (a := i0) (b := 100) hi_i0 (by omega))) (fun c_13 => ?_)
      refine g_aload_n hX dM_out_16 0 rfl ?_
      refine g_iconst (v := 1) hX dM_out_17 (by decide) ?_
      refine g_callV hX (con_M_goBy l Z h q V0 1 (by decide) nP ((hq_i0.1.2.1 1 (by decide) (by decide)).trans hP) hP5 hq_i0.2.1) mvM_goBy q_824 rfl (by decide) 0 rfl rfl rfl (Nat.le_of_ble_eq_true rfl) dM_out_18 [0, 1, 2, 3, 4, 5, 6, 7, 8, 9, 10, 11, 12, 13, 14, 15, 16, 17, 18, 19, 20, 21] rfl (subM_all Z h q V0) (g_fn (ws1 := wM Z h q (liveN nP V0 1)) (st1 := [.int (liveN nP V0 1 12 3 - V0 12 3)]) (putM_all Z h q V0 (liveN nP V0 1)) rfl ?_)
      refine g_top (y := (liveG nP (liveN nP S (i0 - 1)))) ((live1_g nP V0).trans hq_i0.2.2.1) ?_
      refine g_if_ne hX 30 dM_out_21 (by decide) (fun c_21 => ?_) (fun c_21 => ?_)
      · refine g_aload_n hX dM_out_30 0 rfl ?_
        refine g_aload_n hX dM_out_31 0 rfl ?_
        refine g_get hX 0 rfl rfl 25 (by decide) uu_M q_609 rfl rfl dM_out_32 ?_
        refine g_callV hX (con_M_again_18 l Z h q (liveN nP V0 1)) mvM_again q_769 rfl (by decide) 0 rfl rfl rfl (Nat.le_of_ble_eq_true rfl) dM_out_35 [0, 1, 2, 3, 4, 5, 6, 7, 8, 9, 10, 11, 12, 13, 14, 15, 16, 17, 18, 19, 20, 21] rfl (subM_all Z h q (liveN nP V0 1)) (g_fn (ws1 := wM Z h q (up (liveN nP V0 1) ((liveN nP V0 1) 18))) (st1 := []) (putM_all Z h q (liveN nP V0 1) (up (liveN nP V0 1) ((liveN nP V0 1) 18))) rfl ?_)
        refine g_same (ws1 := wM Z h q (sr (sr S 18 (pk S)) 14 ((liveN nP V0 1) 14))) (Mnd.back (hq_i0.1.live nP 1) Z h q) ?_
        refine g_iload_n hX dM_out_38 1 rfl ?_
        refine g_bipush (v := 100) hX dM_out_39 (by decide) ?_
        refine g_icmp_ge hX 48 dM_out_41 (by decide) (fun c_41 => absurd c_41 (nI_ge (a := i0) (b := 100) hi_i0 (by decide))) (fun c_41 => ?_)
        refine g_iload_n hX dM_out_44 1 rfl ?_
        refine g_goto hX 50 dM_out_45 (by decide) ?_
        exact r_iret hX hQ dM_out_50 keysM (by rw [show outL nP S 99 1 = (nI i0) from (by show outL nP S 99 1 = _; rw [← hq_i0.2.2.2.1, show 100 - i0 = (100 - (i0 + 1)) + 1 by omega, outL, if_neg (fun q => c_21 ((liveG_le0 hP5 _).mp q))])]; exact MIq_mk (Scr.back _ _ _ _))
      · refine g_iinc (v := (nI (i0 + 1))) (lv1 := [(0, .ref h), (1, .int (nI (i0 + 1)))]) hX dM_out_24 1 rfl (inc_nat _) (by decide) [1, 0] rfl ?_
        refine g_goto hX 10 dM_out_27 (by decide) ?_
        exact ih_i0 (liveN nP V0 1) (out_step hP5 hq_i0 hi_i0 c_21)
  exact hL_10 1 (by omega) (sr S 18 (pk S)) (⟨Mnd.start S, (hV.cong (sr_ne _ _ (by decide)) (sr_ne _ _ (by decide)) (sr_ne _ _ (by decide))), (Eq9.lvS (nL := 0) (Eq9.mem 0 S)).1, rfl, Eq9.mem 0 S, by decide⟩)
set_option maxHeartbeats 4000000 in
set_option maxRecDepth 20000 in
theorem con_M_judged (l : Launch) (Z : ZZ) (h : Nat) (q : Nat → Nat) (S : St) (nP : Nat) (hP : S 12 1 = nI nP) (hP5 : nP ≤ 5) (nL : Nat) (hL : S 12 0 = nI nL) (hL8 : nL ≤ 8) (o t c : Nat → Nat) (hLk : Lks S nL o t c) (hV : Vd S nP) (nR : Nat) (hR : S 12 6 = nI nR) (hR12 : nR ≤ 12) : Con l Z yM_judged cM_judged 2 (some .int) 5 [.ref h] (wM Z h q S) (judP Z h q nL nP nR S) := by
  refine Con.of (by decide) (Nat.le_of_ble_eq_true rfl) (fun X hX hQ => ?_)
  show G X Z (wM Z h q S) 0 [(0, .ref h)] []
  refine g_aload_n hX dM_judged_0 0 rfl ?_
  refine g_aload_n hX dM_judged_1 0 rfl ?_
  refine g_get hX 0 rfl rfl 25 (by decide) uu_M q_609 rfl rfl dM_judged_2 ?_
  refine g_callV hX (con_M_keep_18 l Z h q S) mvM_keep q_765 rfl (by decide) 0 rfl rfl rfl (Nat.le_of_ble_eq_true rfl) dM_judged_5 [0, 1, 2, 3, 4, 5, 6, 7, 8, 9, 10, 11, 12, 13, 14, 15, 16, 17, 18, 19, 20, 21] rfl (subM_all Z h q S) (g_fn (ws1 := wM Z h q (sr S 18 (pk S))) (st1 := []) (putM_all Z h q S (sr S 18 (pk S))) rfl ?_)
  refine g_aload_n hX dM_judged_8 0 rfl ?_
  refine g_get hX 0 rfl rfl 19 (by decide) uu_M q_603 rfl rfl dM_judged_9 ?_
  refine g_iconst (v := 0) hX dM_judged_12 (by decide) ?_
  refine g_iconst (v := 0) hX dM_judged_13 (by decide) ?_
  refine g_ast (ws1 := wM Z h q (sw (sr S 18 (pk S)) 14 0 0)) hX 14 rfl 0 (by omega) (by decide) (rfl) dM_judged_14 (setM_S_14 Z h q (sr S 18 (pk S)) 0 0) ?_
  refine g_iconst (v := 0) hX dM_judged_15 (by decide) ?_
  refine g_istore_n (lv1 := [(0, .ref h), (1, .int 0)]) hX dM_judged_16 (by decide) [1, 0] rfl ?_
  have hL_17 : ∀ i0, i0 ≤ nR → ∀ (V0 : St), Mnd S V0 ∧ Vd V0 nP ∧ Lks V0 nL o t c ∧ JD (S 15) nP nR S V0 i0 → G X Z (wM Z h q V0) 17 [(0, .ref h), (1, .int (nI i0))] [] := by
    refine loopUp _ nR ?_ (fun i0 hi_i0 ih_i0 => ?_)
    · intro V0 hq_i0
      refine g_iload_n hX dM_judged_17 1 rfl ?_
      refine g_aload_n hX dM_judged_18 0 rfl ?_
      refine g_get hX 0 rfl rfl 20 (by decide) uu_M q_604 rfl rfl dM_judged_19 ?_
      refine g_top (y := (nI nR)) ((hq_i0.1.2.1 6 (by decide) (by decide)).trans hR) ?_
      refine g_icmp_ge hX 119 dM_judged_22 (by decide) (fun c_22 => ?_) (fun c_22 => absurd (nI_le (a := nR) (b := nR) (Nat.le_refl _) (by omega)) c_22)
      refine g_aload_n hX dM_judged_119 0 rfl ?_
      refine g_aload_n hX dM_judged_120 0 rfl ?_
      refine g_get hX 0 rfl rfl 25 (by decide) uu_M q_609 rfl rfl dM_judged_121 ?_
      refine g_callV hX (con_M_again_18 l Z h q V0) mvM_again q_769 rfl (by decide) 0 rfl rfl rfl (Nat.le_of_ble_eq_true rfl) dM_judged_124 [0, 1, 2, 3, 4, 5, 6, 7, 8, 9, 10, 11, 12, 13, 14, 15, 16, 17, 18, 19, 20, 21] rfl (subM_all Z h q V0) (g_fn (ws1 := wM Z h q (up V0 (V0 18))) (st1 := []) (putM_all Z h q V0 (up V0 (V0 18))) rfl ?_)
      refine g_same (ws1 := wM Z h q (sr (sr S 18 (pk S)) 14 (V0 14))) (Mnd.back hq_i0.1 Z h q) ?_
      refine g_iload_n hX dM_judged_127 1 rfl ?_
      exact r_iret hX hQ dM_judged_128 keysM (judP_mk hq_i0.2.2.2 (ptL_end))
    · intro V0 hq_i0
      refine g_iload_n hX dM_judged_17 1 rfl ?_
      refine g_aload_n hX dM_judged_18 0 rfl ?_
      refine g_get hX 0 rfl rfl 20 (by decide) uu_M q_604 rfl rfl dM_judged_19 ?_
      refine g_top (y := (nI nR)) ((hq_i0.1.2.1 6 (by decide) (by decide)).trans hR) ?_
      refine g_icmp_ge hX 119 dM_judged_22 (by decide) (fun c_22 => absurd c_22 (nI_ge (a := i0) (b := nR) hi_i0 (by omega))) (fun c_22 => ?_)
      refine g_aload_n hX dM_judged_25 0 rfl ?_
      refine g_aload_n hX dM_judged_26 0 rfl ?_
      refine g_get hX 0 rfl rfl 21 (by decide) uu_M q_605 rfl rfl dM_judged_27 ?_
      refine g_iload_n hX dM_judged_30 1 rfl ?_
      refine g_ald (v := (S 15 i0)) hX 15 rfl i0 (by omega) (by decide) (rfl) (congrFun (hq_i0.1.1 15 (by decide) (by decide) (by decide) (by decide) (by decide) (by decide)) i0) dM_judged_31 ?_
      refine g_bipush (v := 10) hX dM_judged_32 (by decide) ?_
      refine g_idiv (z := ((S 15 i0) / 10)) hX dM_judged_34 (by decide) (rfl) ?_
      refine g_callV hX (con_M_isOne l Z h q V0 ((S 15 i0) / 10) nP ((hq_i0.1.2.1 1 (by decide) (by decide)).trans hP) hP5) mvM_isOne q_804 rfl (by decide) 0 rfl rfl rfl (Nat.le_of_ble_eq_true rfl) dM_judged_35 [0, 1, 2, 3, 4, 5, 6, 7, 8, 9, 10, 11, 12, 13, 14, 15, 16, 17, 18, 19, 20, 21] rfl (subM_all Z h q V0) (g_fn (ws1 := wM Z h q V0) (st1 := [.int (hasPersonS V0 ((S 15 i0) / 10))]) (putM_all Z h q V0 V0) rfl ?_)
      refine g_if_eq hX 119 dM_judged_38 (by decide) (fun c_38 => ?_) (fun c_38 => ?_)
      · refine g_aload_n hX dM_judged_119 0 rfl ?_
        refine g_aload_n hX dM_judged_120 0 rfl ?_
        refine g_get hX 0 rfl rfl 25 (by decide) uu_M q_609 rfl rfl dM_judged_121 ?_
        refine g_callV hX (con_M_again_18 l Z h q V0) mvM_again q_769 rfl (by decide) 0 rfl rfl rfl (Nat.le_of_ble_eq_true rfl) dM_judged_124 [0, 1, 2, 3, 4, 5, 6, 7, 8, 9, 10, 11, 12, 13, 14, 15, 16, 17, 18, 19, 20, 21] rfl (subM_all Z h q V0) (g_fn (ws1 := wM Z h q (up V0 (V0 18))) (st1 := []) (putM_all Z h q V0 (up V0 (V0 18))) rfl ?_)
        refine g_same (ws1 := wM Z h q (sr (sr S 18 (pk S)) 14 (V0 14))) (Mnd.back hq_i0.1 Z h q) ?_
        refine g_iload_n hX dM_judged_127 1 rfl ?_
        exact r_iret hX hQ dM_judged_128 keysM (judP_mk hq_i0.2.2.2 (ptL_no hi_i0 (can_noP c_38)))
      · obtain ⟨p1, hp16, ep1⟩ := hasP_of ((hq_i0.1.2.1 1 (by decide) (by decide)).trans hP) hP5 c_38
        refine g_aload_n hX dM_judged_41 0 rfl ?_
        refine g_aload_n hX dM_judged_42 0 rfl ?_
        refine g_get hX 0 rfl rfl 21 (by decide) uu_M q_605 rfl rfl dM_judged_43 ?_
        refine g_iload_n hX dM_judged_46 1 rfl ?_
        refine g_ald (v := (S 15 i0)) hX 15 rfl i0 (by omega) (by decide) (rfl) (congrFun (hq_i0.1.1 15 (by decide) (by decide) (by decide) (by decide) (by decide) (by decide)) i0) dM_judged_47 ?_
        refine g_bipush (v := 10) hX dM_judged_48 (by decide) ?_
        refine g_irem (z := ((S 15 i0) - (S 15 i0) / 10 * 10)) hX dM_judged_50 (by decide) (rfl) ?_
        refine g_callV hX (con_M_isLock l Z h q V0 ((S 15 i0) - (S 15 i0) / 10 * 10) nL ((hq_i0.1.2.1 0 (by decide) (by decide)).trans hL) hL8) mvM_isLock q_796 rfl (by decide) 0 rfl rfl rfl (Nat.le_of_ble_eq_true rfl) dM_judged_51 [0, 1, 2, 3, 4, 5, 6, 7, 8, 9, 10, 11, 12, 13, 14, 15, 16, 17, 18, 19, 20, 21] rfl (subM_all Z h q V0) (g_fn (ws1 := wM Z h q V0) (st1 := [.int (hasLockS V0 ((S 15 i0) - (S 15 i0) / 10 * 10))]) (putM_all Z h q V0 V0) rfl ?_)
        refine g_if_eq hX 119 dM_judged_54 (by decide) (fun c_54 => ?_) (fun c_54 => ?_)
        · refine g_aload_n hX dM_judged_119 0 rfl ?_
          refine g_aload_n hX dM_judged_120 0 rfl ?_
          refine g_get hX 0 rfl rfl 25 (by decide) uu_M q_609 rfl rfl dM_judged_121 ?_
          refine g_callV hX (con_M_again_18 l Z h q V0) mvM_again q_769 rfl (by decide) 0 rfl rfl rfl (Nat.le_of_ble_eq_true rfl) dM_judged_124 [0, 1, 2, 3, 4, 5, 6, 7, 8, 9, 10, 11, 12, 13, 14, 15, 16, 17, 18, 19, 20, 21] rfl (subM_all Z h q V0) (g_fn (ws1 := wM Z h q (up V0 (V0 18))) (st1 := []) (putM_all Z h q V0 (up V0 (V0 18))) rfl ?_)
          refine g_same (ws1 := wM Z h q (sr (sr S 18 (pk S)) 14 (V0 14))) (Mnd.back hq_i0.1 Z h q) ?_
          refine g_iload_n hX dM_judged_127 1 rfl ?_
          exact r_iret hX hQ dM_judged_128 keysM (judP_mk hq_i0.2.2.2 (ptL_no hi_i0 (can_noL c_54)))
        · obtain ⟨g1, hg16, eg1⟩ := hasL_of8 ((hq_i0.1.2.1 0 (by decide) (by decide)).trans hL) hL8 c_54
          refine g_aload_n hX dM_judged_57 0 rfl ?_
          refine g_aload_n hX dM_judged_58 0 rfl ?_
          refine g_get hX 0 rfl rfl 21 (by decide) uu_M q_605 rfl rfl dM_judged_59 ?_
          refine g_iload_n hX dM_judged_62 1 rfl ?_
          refine g_ald (v := (S 15 i0)) hX 15 rfl i0 (by omega) (by decide) (rfl) (congrFun (hq_i0.1.1 15 (by decide) (by decide) (by decide) (by decide) (by decide) (by decide)) i0) dM_judged_63 ?_
          refine g_bipush (v := 10) hX dM_judged_64 (by decide) ?_
          refine g_idiv (z := (nI p1)) hX dM_judged_66 (by decide) (ep1) ?_
          refine g_aload_n hX dM_judged_67 0 rfl ?_
          refine g_get hX 0 rfl rfl 21 (by decide) uu_M q_605 rfl rfl dM_judged_68 ?_
          refine g_iload_n hX dM_judged_71 1 rfl ?_
          refine g_ald (v := (S 15 i0)) hX 15 rfl i0 (by omega) (by decide) (rfl) (congrFun (hq_i0.1.1 15 (by decide) (by decide) (by decide) (by decide) (by decide) (by decide)) i0) dM_judged_72 ?_
          refine g_bipush (v := 10) hX dM_judged_73 (by decide) ?_
          refine g_irem (z := (nI g1)) hX dM_judged_75 (by decide) (eg1) ?_
          refine g_callV hX (con_M_canPass l Z h q V0 p1 g1 nP ((hq_i0.1.2.1 1 (by decide) (by decide)).trans hP) hP5 nL ((hq_i0.1.2.1 0 (by decide) (by decide)).trans hL) hL8 hp16 hg16) mvM_canPass q_816 rfl (by decide) 0 rfl rfl rfl (Nat.le_of_ble_eq_true rfl) dM_judged_76 [0, 1, 2, 3, 4, 5, 6, 7, 8, 9, 10, 11, 12, 13, 14, 15, 16, 17, 18, 19, 20, 21] rfl (subM_all Z h q V0) (g_fn (ws1 := wM Z h q V0) (st1 := [.int (canPassS V0 (nI p1) (nI g1))]) (putM_all Z h q V0 V0) rfl ?_)
          refine g_if_eq hX 119 dM_judged_79 (by decide) (fun c_79 => ?_) (fun c_79 => ?_)
          · refine g_aload_n hX dM_judged_119 0 rfl ?_
            refine g_aload_n hX dM_judged_120 0 rfl ?_
            refine g_get hX 0 rfl rfl 25 (by decide) uu_M q_609 rfl rfl dM_judged_121 ?_
            refine g_callV hX (con_M_again_18 l Z h q V0) mvM_again q_769 rfl (by decide) 0 rfl rfl rfl (Nat.le_of_ble_eq_true rfl) dM_judged_124 [0, 1, 2, 3, 4, 5, 6, 7, 8, 9, 10, 11, 12, 13, 14, 15, 16, 17, 18, 19, 20, 21] rfl (subM_all Z h q V0) (g_fn (ws1 := wM Z h q (up V0 (V0 18))) (st1 := []) (putM_all Z h q V0 (up V0 (V0 18))) rfl ?_)
            refine g_same (ws1 := wM Z h q (sr (sr S 18 (pk S)) 14 (V0 14))) (Mnd.back hq_i0.1 Z h q) ?_
            refine g_iload_n hX dM_judged_127 1 rfl ?_
            exact r_iret hX hQ dM_judged_128 keysM (judP_mk hq_i0.2.2.2 (ptL_no hi_i0 (by rw [eg1, ep1]; exact c_79)))
          · have hpa := pass_pre hq_i0.2.1 hq_i0.2.2.1 (by omega) hg16 hL8 c_79
            refine g_aload_n hX dM_judged_82 0 rfl ?_
            refine g_get hX 0 rfl rfl 19 (by decide) uu_M q_603 rfl rfl dM_judged_83 ?_
            refine g_iconst (v := 0) hX dM_judged_86 (by decide) ?_
            refine g_dup2 hX dM_judged_87 rfl rfl ?_
            refine g_ald (v := (V0 14 0)) hX 14 rfl 0 (by omega) (by decide) (rfl) (rfl) dM_judged_88 ?_
            refine g_aload_n hX dM_judged_89 0 rfl ?_
            refine g_aload_n hX dM_judged_90 0 rfl ?_
            refine g_get hX 0 rfl rfl 21 (by decide) uu_M q_605 rfl rfl dM_judged_91 ?_
            refine g_iload_n hX dM_judged_94 1 rfl ?_
            refine g_ald (v := (S 15 i0)) hX 15 rfl i0 (by omega) (by decide) (rfl) (congrFun (hq_i0.1.1 15 (by decide) (by decide) (by decide) (by decide) (by decide) (by decide)) i0) dM_judged_95 ?_
            refine g_bipush (v := 10) hX dM_judged_96 (by decide) ?_
            refine g_idiv (z := (nI p1)) hX dM_judged_98 (by decide) (ep1) ?_
            refine g_aload_n hX dM_judged_99 0 rfl ?_
            refine g_get hX 0 rfl rfl 21 (by decide) uu_M q_605 rfl rfl dM_judged_100 ?_
            refine g_iload_n hX dM_judged_103 1 rfl ?_
            refine g_ald (v := (S 15 i0)) hX 15 rfl i0 (by omega) (by decide) (rfl) (congrFun (hq_i0.1.1 15 (by decide) (by decide) (by decide) (by decide) (by decide) (by decide)) i0) dM_judged_104 ?_
            refine g_bipush (v := 10) hX dM_judged_105 (by decide) ?_
            refine g_irem (z := (nI g1)) hX dM_judged_107 (by decide) (eg1) ?_
            refine g_callV hX (con_M_pass l Z h q V0 p1 g1 (c g1) nP ((hq_i0.1.2.1 1 (by decide) (by decide)).trans hP) hP5 nL ((hq_i0.1.2.1 0 (by decide) (by decide)).trans hL) hL8 hp16 hg16 hpa.1 hpa.2.1 hpa.2.2.1 hpa.2.2.2.1 hpa.2.2.2.2) mvM_pass q_820 rfl (by decide) 0 rfl rfl rfl (Nat.le_of_ble_eq_true rfl) dM_judged_108 [0, 1, 2, 3, 4, 5, 6, 7, 8, 9, 10, 11, 12, 13, 14, 15, 16, 17, 18, 19, 20, 21] rfl (subM_all Z h q V0) (g_fn (ws1 := wM Z h q (goS nP V0 p1 g1)) (st1 := [.int (goS nP V0 p1 g1 12 3 - V0 12 3), .int (V0 14 0), .int 0, .ref (q 14)]) (putM_all Z h q V0 (goS nP V0 p1 g1)) rfl ?_)
            refine g_iadd (z := ((V0 14 0) + (goS nP V0 p1 g1 12 3 - V0 12 3))) hX dM_judged_111 (rfl) ?_
            refine g_ast (ws1 := wM Z h q (sw (goS nP V0 p1 g1) 14 0 ((V0 14 0) + (goS nP V0 p1 g1 12 3 - V0 12 3)))) hX 14 rfl 0 (by omega) (by decide) (rfl) dM_judged_112 (setM_S_14 Z h q (goS nP V0 p1 g1) 0 ((V0 14 0) + (goS nP V0 p1 g1 12 3 - V0 12 3))) ?_
            refine g_iinc (v := (nI (i0 + 1))) (lv1 := [(0, .ref h), (1, .int (nI (i0 + 1)))]) hX dM_judged_113 1 rfl (inc_nat _) (by decide) [1, 0] rfl ?_
            refine g_goto hX 17 dM_judged_116 (by decide) ?_
            exact ih_i0 (sw (goS nP V0 p1 g1) 14 0 ((V0 14 0) + (goS nP V0 p1 g1 12 3 - V0 12 3))) (⟨(hq_i0.1.go nP p1 g1).w14 0 _, (hq_i0.2.1.go hq_i0.2.2.1 p1 hg16).cong (sw_ne _ _ _ (by decide)) (sw_ne _ _ _ (by decide)) (sw_ne _ _ _ (by decide)), (hq_i0.2.2.1.go p1 g1).cong (sw_ne _ _ _ (by decide)) (sw_ne _ _ _ (by decide)) (sw_ne _ _ _ (by decide)), hq_i0.2.2.2.step hi_i0 ((hq_i0.1.2.1 0 (by decide) (by decide)).trans hL) hL8 ep1 eg1 (by omega) (by omega) c_79⟩)
  exact hL_17 0 (Nat.zero_le _) (sw (sr S 18 (pk S)) 14 0 0) (⟨(Mnd.start S).w14 0 0, hV.cong (by rw [sw_ne _ _ _ (by decide), sr_ne _ _ (by decide)]) (by rw [sw_ne _ _ _ (by decide), sr_ne _ _ (by decide)]) (by rw [sw_ne _ _ _ (by decide), sr_ne _ _ (by decide)]), hLk.cong (by rw [sw_ne _ _ _ (by decide), sr_ne _ _ (by decide)]) (by rw [sw_ne _ _ _ (by decide), sr_ne _ _ (by decide)]) (by rw [sw_ne _ _ _ (by decide), sr_ne _ _ (by decide)]), JD.start hL hL8⟩)
set_option maxHeartbeats 4000000 in
set_option maxRecDepth 20000 in
theorem con_M_judge (l : Launch) (Z : ZZ) (h : Nat) (q : Nat → Nat) (S : St) (nP : Nat) (hP : S 12 1 = nI nP) (hP5 : nP ≤ 5) (nL : Nat) (hL : S 12 0 = nI nL) (hL8 : nL ≤ 8) (o t c : Nat → Nat) (hLk : Lks S nL o t c) (hV : Vd S nP) (nR : Nat) (hR : S 12 6 = nI nR) (hR12 : nR ≤ 12) : Con l Z yM_judge cM_judge 2 (some .int) 6 [.ref h] (wM Z h q S) (MIq Z h q nL (mf_judge S nP nR)) := by
  refine Con.of (by decide) (Nat.le_of_ble_eq_true rfl) (fun X hX hQ => ?_)
  show G X Z (wM Z h q S) 0 [(0, .ref h)] []
  refine g_aload_n hX dM_judge_0 0 rfl ?_
  refine g_callV hX (con_M_judged l Z h q S nP hP hP5 nL hL hL8 o t c hLk hV nR hR hR12) mvM_judged q_908 rfl (by decide) 0 rfl rfl rfl (Nat.le_of_ble_eq_true rfl) dM_judge_1 [0, 1, 2, 3, 4, 5, 6, 7, 8, 9, 10, 11, 12, 13, 14, 15, 16, 17, 18, 19, 20, 21] rfl (subM_all Z h q S) (fun v w hp => ?_)
  obtain ⟨rfl, S1, hS1, h14, rfl⟩ := hp
  refine g_eq (ws1 := wM Z h q S1) (st1 := [.int ((ptL (fun _ => S 15) nP nR 0 S).1)]) (putM_all Z h q S S1) rfl rfl ?_
  refine g_istore_n (lv1 := [(0, .ref h), (1, .int ((ptL (fun _ => S 15) nP nR 0 S).1))]) hX dM_judge_4 (by decide) [1, 0] rfl ?_
  refine g_iload_n hX dM_judge_5 1 rfl ?_
  refine g_aload_n hX dM_judge_6 0 rfl ?_
  refine g_get hX 0 rfl rfl 20 (by decide) uu_M q_604 rfl rfl dM_judge_7 ?_
  refine g_top (y := (nI nR)) ((hS1 12 (by decide) (by decide) (by decide) (by decide) (by decide) 6 (by decide) (by omega)).trans hR) ?_
  refine g_icmp_ge hX 17 dM_judge_10 (by decide) (fun c_10 => ?_) (fun c_10 => ?_)
  · refine g_bipush (v := (-9)) hX dM_judge_17 (by decide) ?_
    exact r_iret hX hQ dM_judge_19 keysM (by rw [show mf_judge S nP nR = ((-9), S) from by simp [mf_judge, c_10]]; exact MIq_mk (hS1))
  · refine g_iload_n hX dM_judge_13 1 rfl ?_
    refine g_goto hX 19 dM_judge_14 (by decide) ?_
    exact r_iret hX hQ dM_judge_19 keysM (by rw [show mf_judge S nP nR = (((ptL (fun _ => S 15) nP nR 0 S).1), S) from by simp [mf_judge, c_10]]; exact MIq_mk (hS1))
set_option maxHeartbeats 4000000 in
set_option maxRecDepth 20000 in
theorem con_M_ends (l : Launch) (Z : ZZ) (h : Nat) (q : Nat → Nat) (S : St) (nP : Nat) (hP : S 12 1 = nI nP) (hP5 : nP ≤ 5) (nL : Nat) (hL : S 12 0 = nI nL) (hL8 : nL ≤ 8) (o t c : Nat → Nat) (hLk : Lks S nL o t c) (hV : Vd S nP) (nR : Nat) (hR : S 12 6 = nI nR) (hR12 : nR ≤ 12) : Con l Z yM_ends cM_ends 1 (some .int) 6 [.ref h] (wM Z h q S) (MIq Z h q nL (mf_ends S nP nR)) := by
  refine Con.of (by decide) (Nat.le_of_ble_eq_true rfl) (fun X hX hQ => ?_)
  show G X Z (wM Z h q S) 0 [(0, .ref h)] []
  refine g_aload_n hX dM_ends_0 0 rfl ?_
  refine g_callV hX (con_M_judged l Z h q S nP hP hP5 nL hL hL8 o t c hLk hV nR hR hR12) mvM_judged q_908 rfl (by decide) 0 rfl rfl rfl (Nat.le_of_ble_eq_true rfl) dM_ends_1 [0, 1, 2, 3, 4, 5, 6, 7, 8, 9, 10, 11, 12, 13, 14, 15, 16, 17, 18, 19, 20, 21] rfl (subM_all Z h q S) (fun v w hp => ?_)
  obtain ⟨rfl, S1, hS1, h14, rfl⟩ := hp
  refine g_eq (ws1 := wM Z h q S1) (st1 := [.int ((ptL (fun _ => S 15) nP nR 0 S).1)]) (putM_all Z h q S S1) rfl rfl ?_
  refine g_pop hX dM_ends_4 rfl ?_
  refine g_aload_n hX dM_ends_5 0 rfl ?_
  refine g_get hX 0 rfl rfl 19 (by decide) uu_M q_603 rfl rfl dM_ends_6 ?_
  refine g_iconst (v := 0) hX dM_ends_9 (by decide) ?_
  refine g_ald (v := ((ptL (fun _ => S 15) nP nR 0 S).2 12 3 - S 12 3)) hX 14 rfl 0 (by omega) (by decide) (rfl) (h14) dM_ends_10 ?_
  exact r_iret hX hQ dM_ends_11 keysM (by rw [show mf_ends S nP nR = (((ptL (fun _ => S 15) nP nR 0 S).2 12 3 - S 12 3), S) from by simp [mf_ends]]; exact MIq_mk (hS1))
set_option maxHeartbeats 4000000 in
set_option maxRecDepth 20000 in
theorem con_M_seeds (l : Launch) (Z : ZZ) (h : Nat) (q : Nat → Nat) (S : St) (x z : Int32) (nP : Nat) (hP : S 12 1 = nI nP) (hP5 : nP ≤ 5) (nL : Nat) (hL : S 12 0 = nI nL) (hL8 : nL ≤ 8) (o t c : Nat → Nat) (hLk : Lks S nL o t c) (hV : Vd S nP) : Con l Z yM_seeds cM_seeds 8 (some .int) 5 [.ref h, .int x, .int z] (wM Z h q S) (MIq Z h q nL (mf_seeds S nP x z)) := by
  refine Con.of (by decide) (Nat.le_of_ble_eq_true rfl) (fun X hX hQ => ?_)
  show G X Z (wM Z h q S) 0 [(0, .ref h), (1, .int x), (2, .int z)] []
  refine g_iload_n hX dM_seeds_0 1 rfl ?_
  refine g_iconst (v := 1) hX dM_seeds_1 (by decide) ?_
  refine g_icmp_ge hX 12 dM_seeds_2 (by decide) (fun c_2 => ?_) (fun c_2 => ?_)
  · refine g_iload_n hX dM_seeds_12 1 rfl ?_
    refine g_bipush (v := 30) hX dM_seeds_13 (by decide) ?_
    refine g_icmp_le hX 25 dM_seeds_15 (by decide) (fun c_15 => ?_) (fun c_15 => ?_)
    · refine g_aload_n hX dM_seeds_25 0 rfl ?_
      refine g_get hX 0 rfl rfl 8 (by decide) uu_M q_592 rfl rfl dM_seeds_26 ?_
      refine g_if_eq hX 39 dM_seeds_29 (by decide) (fun c_29 => ?_) (fun c_29 => ?_)
      · refine g_aload_n hX dM_seeds_39 0 rfl ?_
        refine g_bipush (v := (-3)) hX dM_seeds_40 (by decide) ?_
        refine g_callV hX (con_M_no l Z h q S (-3) 3 (by decide) (by decide)) mvM_no q_676 rfl (by decide) 0 rfl rfl rfl (Nat.le_of_ble_eq_true rfl) dM_seeds_42 [0, 1, 2, 3, 4, 5, 6, 7, 8, 9, 10, 11, 12, 13, 14, 15, 16, 17, 18, 19, 20, 21] rfl (subM_all Z h q S) (g_fn (ws1 := wM Z h q (nob S 3)) (st1 := [.int (-3)]) (putM_all Z h q S (nob S 3)) rfl ?_)
        exact r_iret hX hQ dM_seeds_45 keysM (by rw [show mf_seeds S nP x z = ((-3), nob S 3) from by simp [mf_seeds, c_2, c_15, c_29]]; exact MIq_mk (Scr.rf))
      · refine g_aload_n hX dM_seeds_32 0 rfl ?_
        refine g_get hX 0 rfl rfl 2 (by decide) uu_M q_586 rfl rfl dM_seeds_33 ?_
        refine g_if_ne hX 46 dM_seeds_36 (by decide) (fun c_36 => ?_) (fun c_36 => ?_)
        · obtain ⟨n1, hn10, hn19, rfl⟩ := mins_of2 (a := 1) (b := 30) (na := 1) (nb := 30) rfl rfl (by decide) (by decide) c_2 c_15
          have hp0 : 0 < nP := Nat.pos_of_ne_zero (fun e => c_29 (by rw [hP, e]; rfl))
          have hl0 : 0 < nL := Nat.pos_of_ne_zero (fun e => c_36 (by rw [hL, e]; rfl))
          refine g_aload_n hX dM_seeds_46 0 rfl ?_
          refine g_aload_n hX dM_seeds_47 0 rfl ?_
          refine g_get hX 0 rfl rfl 25 (by decide) uu_M q_609 rfl rfl dM_seeds_48 ?_
          refine g_callV hX (con_M_keep_18 l Z h q S) mvM_keep q_765 rfl (by decide) 0 rfl rfl rfl (Nat.le_of_ble_eq_true rfl) dM_seeds_51 [0, 1, 2, 3, 4, 5, 6, 7, 8, 9, 10, 11, 12, 13, 14, 15, 16, 17, 18, 19, 20, 21] rfl (subM_all Z h q S) (g_fn (ws1 := wM Z h q (sr S 18 (pk S))) (st1 := []) (putM_all Z h q S (sr S 18 (pk S))) rfl ?_)
          refine g_iload_n hX dM_seeds_54 2 rfl ?_
          refine g_istore_n (lv1 := [(0, .ref h), (1, .int (nI n1)), (2, .int z), (3, .int z)]) hX dM_seeds_55 (by decide) [1, 2, 3, 0] rfl ?_
          refine g_iconst (v := 0) hX dM_seeds_56 (by decide) ?_
          refine g_istore (lv1 := [(0, .ref h), (1, .int (nI n1)), (2, .int z), (3, .int z), (4, .int 0)]) hX dM_seeds_57 (by decide) [1, 2, 3, 4, 0] rfl ?_
          refine g_iconst (v := 0) hX dM_seeds_59 (by decide) ?_
          refine g_istore (lv1 := [(0, .ref h), (1, .int (nI n1)), (2, .int z), (3, .int z), (4, .int 0), (5, .int 0)]) hX dM_seeds_60 (by decide) [1, 2, 3, 4, 5, 0] rfl ?_
          have hL_62 : ∀ i0, i0 ≤ n1 → ∀ (V0 : St) (z0 : Int32) (k0 : Int32), Mnd S V0 ∧ Vd V0 nP ∧ Lks V0 nL o t c ∧ sdL nP (n1 - i0) z0 V0 k0 = sdL nP n1 z S 0 → G X Z (wM Z h q V0) 62 [(0, .ref h), (1, .int (nI n1)), (2, .int z), (3, .int z0), (4, .int k0), (5, .int (nI i0))] [] := by
            refine loopUp _ n1 ?_ (fun i0 hi_i0 ih_i0 => ?_)
            · intro V0 z0 k0 hq_i0
              refine g_iload hX dM_seeds_62 5 rfl ?_
              refine g_iload_n hX dM_seeds_64 1 rfl ?_
              refine g_icmp_ge hX 146 dM_seeds_65 (by decide) (fun c_65 => ?_) (fun c_65 => absurd (nI_le (a := n1) (b := n1) (Nat.le_refl _) (by omega)) c_65)
              refine g_aload_n hX dM_seeds_146 0 rfl ?_
              refine g_aload_n hX dM_seeds_147 0 rfl ?_
              refine g_get hX 0 rfl rfl 25 (by decide) uu_M q_609 rfl rfl dM_seeds_148 ?_
              refine g_callV hX (con_M_again_18 l Z h q V0) mvM_again q_769 rfl (by decide) 0 rfl rfl rfl (Nat.le_of_ble_eq_true rfl) dM_seeds_151 [0, 1, 2, 3, 4, 5, 6, 7, 8, 9, 10, 11, 12, 13, 14, 15, 16, 17, 18, 19, 20, 21] rfl (subM_all Z h q V0) (g_fn (ws1 := wM Z h q (up V0 (V0 18))) (st1 := []) (putM_all Z h q V0 (up V0 (V0 18))) rfl ?_)
              refine g_same (ws1 := wM Z h q (sr (sr S 18 (pk S)) 14 (V0 14))) (Mnd.back hq_i0.1 Z h q) ?_
              refine g_iload hX dM_seeds_154 4 rfl ?_
              exact r_iret hX hQ dM_seeds_156 keysM (by rw [show mf_seeds S nP (nI n1) z = (k0, S) from by rw [show k0 = sdL nP n1 z S 0 from by rw [← hq_i0.2.2.2, Nat.sub_self]; rfl]; simp [mf_seeds, c_2, c_15, c_29, c_36, nI_clamp (show n1 < 2 ^ 31 by omega)]]; exact MIq_mk (Scr.back _ _ _ _))
            · intro V0 z0 k0 hq_i0
              refine g_iload hX dM_seeds_62 5 rfl ?_
              refine g_iload_n hX dM_seeds_64 1 rfl ?_
              refine g_icmp_ge hX 146 dM_seeds_65 (by decide) (fun c_65 => absurd c_65 (nI_ge (a := i0) (b := n1) hi_i0 (by omega))) (fun c_65 => ?_)
              refine g_iload_n hX dM_seeds_68 3 rfl ?_
              refine g_ldc hX dM_seeds_69 q_924 ?_
              refine g_imul (z := (z0 * 1664525)) hX dM_seeds_71 (rfl) ?_
              refine g_ldc hX dM_seeds_72 q_925 ?_
              refine g_iadd (z := (nextSeedS z0)) hX dM_seeds_74 (rfl) ?_
              refine g_istore_n (lv1 := [(0, .ref h), (1, .int (nI n1)), (2, .int z), (3, .int (nextSeedS z0)), (4, .int k0), (5, .int (nI i0))]) hX dM_seeds_75 (by decide) [1, 2, 3, 0, 4, 5] rfl ?_
              refine g_iload_n hX dM_seeds_76 3 rfl ?_
              refine g_ldc hX dM_seeds_77 q_926 ?_
              refine g_iand (z := ((nextSeedS z0) &&& 2147483647)) hX dM_seeds_79 (rfl) ?_
              refine g_sipush (v := 256) hX dM_seeds_80 (by decide) ?_
              refine g_idiv (z := (((nextSeedS z0) &&& 2147483647) / 256)) hX dM_seeds_83 (by decide) (rfl) ?_
              refine g_aload_n hX dM_seeds_84 0 rfl ?_
              refine g_get hX 0 rfl rfl 8 (by decide) uu_M q_592 rfl rfl dM_seeds_85 ?_
              refine g_top (y := (nI nP)) (((hq_i0.1.2.1 1 (by decide) (by decide)).trans hP)) ?_
              refine g_irem (z := (drawnS (nextSeedS z0) (nI nP))) hX dM_seeds_88 (fun e => by have := (nI_eq (a := nP) (b := 0) (by omega) (by omega)).mp e; omega) (drw hp0 (by omega)) ?_
              refine g_istore (lv1 := [(0, .ref h), (1, .int (nI n1)), (2, .int z), (3, .int (nextSeedS z0)), (4, .int k0), (5, .int (nI i0)), (6, .int (drawnS (nextSeedS z0) (nI nP)))]) hX dM_seeds_89 (by decide) [1, 2, 3, 4, 5, 6, 0] rfl ?_
              refine g_iload_n hX dM_seeds_91 3 rfl ?_
              refine g_ldc hX dM_seeds_92 q_924 ?_
              refine g_imul (z := ((nextSeedS z0) * 1664525)) hX dM_seeds_94 (rfl) ?_
              refine g_ldc hX dM_seeds_95 q_925 ?_
              refine g_iadd (z := (nextSeedS (nextSeedS z0))) hX dM_seeds_97 (rfl) ?_
              refine g_istore_n (lv1 := [(0, .ref h), (1, .int (nI n1)), (2, .int z), (3, .int (nextSeedS (nextSeedS z0))), (4, .int k0), (5, .int (nI i0)), (6, .int (drawnS (nextSeedS z0) (nI nP)))]) hX dM_seeds_98 (by decide) [1, 2, 3, 0, 4, 5, 6] rfl ?_
              refine g_iload_n hX dM_seeds_99 3 rfl ?_
              refine g_ldc hX dM_seeds_100 q_926 ?_
              refine g_iand (z := ((nextSeedS (nextSeedS z0)) &&& 2147483647)) hX dM_seeds_102 (rfl) ?_
              refine g_sipush (v := 256) hX dM_seeds_103 (by decide) ?_
              refine g_idiv (z := (((nextSeedS (nextSeedS z0)) &&& 2147483647) / 256)) hX dM_seeds_106 (by decide) (rfl) ?_
              refine g_aload_n hX dM_seeds_107 0 rfl ?_
              refine g_get hX 0 rfl rfl 2 (by decide) uu_M q_586 rfl rfl dM_seeds_108 ?_
              refine g_top (y := (nI nL)) (((hq_i0.1.2.1 0 (by decide) (by decide)).trans hL)) ?_
              refine g_irem (z := (drawnS (nextSeedS (nextSeedS z0)) (nI nL))) hX dM_seeds_111 (fun e => by have := (nI_eq (a := nL) (b := 0) (by omega) (by omega)).mp e; omega) (drw hl0 (by omega)) ?_
              refine g_istore (lv1 := [(0, .ref h), (1, .int (nI n1)), (2, .int z), (3, .int (nextSeedS (nextSeedS z0))), (4, .int k0), (5, .int (nI i0)), (6, .int (drawnS (nextSeedS z0) (nI nP))), (7, .int (drawnS (nextSeedS (nextSeedS z0)) (nI nL)))]) hX dM_seeds_112 (by decide) [1, 2, 3, 4, 5, 6, 7, 0] rfl ?_
              obtain ⟨p1, hp16, ep1⟩ := drawn_of (nextSeedS z0) hp0 (by omega)
              obtain ⟨g1, hg16, eg1⟩ := drawn_of (nextSeedS (nextSeedS z0)) hl0 (by omega)
              refine g_eq (lv1 := [(0, .ref h), (1, .int (nI n1)), (2, .int z), (3, .int (nextSeedS (nextSeedS z0))), (4, .int k0), (5, .int (nI i0)), (6, .int (nI p1)), (7, .int (nI g1))]) rfl (by rw [ep1, eg1]) rfl ?_
              refine g_aload_n hX dM_seeds_114 0 rfl ?_
              refine g_iload hX dM_seeds_115 6 rfl ?_
              refine g_iload hX dM_seeds_117 7 rfl ?_
              refine g_callV hX (con_M_canPass l Z h q V0 p1 g1 nP ((hq_i0.1.2.1 1 (by decide) (by decide)).trans hP) hP5 nL ((hq_i0.1.2.1 0 (by decide) (by decide)).trans hL) hL8 hp16 hg16) mvM_canPass q_816 rfl (by decide) 0 rfl rfl rfl (Nat.le_of_ble_eq_true rfl) dM_seeds_119 [0, 1, 2, 3, 4, 5, 6, 7, 8, 9, 10, 11, 12, 13, 14, 15, 16, 17, 18, 19, 20, 21] rfl (subM_all Z h q V0) (g_fn (ws1 := wM Z h q V0) (st1 := [.int (canPassS V0 (nI p1) (nI g1))]) (putM_all Z h q V0 V0) rfl ?_)
              refine g_if_ne hX 128 dM_seeds_122 (by decide) (fun c_122 => ?_) (fun c_122 => ?_)
              · have hpa := pass_pre hq_i0.2.1 hq_i0.2.2.1 (by omega) hg16 hL8 c_122
                refine g_aload_n hX dM_seeds_128 0 rfl ?_
                refine g_iload hX dM_seeds_129 6 rfl ?_
                refine g_iload hX dM_seeds_131 7 rfl ?_
                refine g_callV hX (con_M_pass l Z h q V0 p1 g1 (c g1) nP ((hq_i0.1.2.1 1 (by decide) (by decide)).trans hP) hP5 nL ((hq_i0.1.2.1 0 (by decide) (by decide)).trans hL) hL8 hp16 hg16 hpa.1 hpa.2.1 hpa.2.2.1 hpa.2.2.2.1 hpa.2.2.2.2) mvM_pass q_820 rfl (by decide) 0 rfl rfl rfl (Nat.le_of_ble_eq_true rfl) dM_seeds_133 [0, 1, 2, 3, 4, 5, 6, 7, 8, 9, 10, 11, 12, 13, 14, 15, 16, 17, 18, 19, 20, 21] rfl (subM_all Z h q V0) (g_fn (ws1 := wM Z h q (goS nP V0 p1 g1)) (st1 := [.int (goS nP V0 p1 g1 12 3 - V0 12 3)]) (putM_all Z h q V0 (goS nP V0 p1 g1)) rfl ?_)
                refine g_pop hX dM_seeds_136 rfl ?_
                refine g_iinc (v := (k0 + 1)) (lv1 := [(0, .ref h), (1, .int (nI n1)), (2, .int z), (3, .int (nextSeedS (nextSeedS z0))), (4, .int (k0 + 1)), (5, .int (nI i0)), (6, .int (nI p1)), (7, .int (nI g1))]) hX dM_seeds_137 4 rfl (inc_raw _) (by decide) [1, 2, 3, 4, 0, 5, 6, 7] rfl ?_
                refine g_iinc (v := (nI (i0 + 1))) (lv1 := [(0, .ref h), (1, .int (nI n1)), (2, .int z), (3, .int (nextSeedS (nextSeedS z0))), (4, .int (k0 + 1)), (5, .int (nI (i0 + 1))), (6, .int (nI p1)), (7, .int (nI g1))]) hX dM_seeds_140 5 rfl (inc_nat _) (by decide) [1, 2, 3, 4, 5, 0, 6, 7] rfl ?_
                refine g_goto hX 62 dM_seeds_143 (by decide) ?_
                refine g_lv (lv1 := [(0, .ref h), (1, .int (nI n1)), (2, .int z), (3, .int (nextSeedS (nextSeedS z0))), (4, .int (k0 + 1)), (5, .int (nI (i0 + 1)))]) [0, 1, 2, 3, 4, 5] rfl ?_
                exact ih_i0 (goS nP V0 p1 g1) (nextSeedS (nextSeedS z0)) (k0 + 1) (⟨hq_i0.1.go nP p1 g1, hq_i0.2.1.go hq_i0.2.2.1 p1 hg16, hq_i0.2.2.1.go p1 g1, by rw [← hq_i0.2.2.2, show n1 - i0 = (n1 - (i0 + 1)) + 1 by omega, sdL, ((hq_i0.1.2.1 1 (by decide) (by decide)).trans hP), ((hq_i0.1.2.1 0 (by decide) (by decide)).trans hL), ep1, eg1, if_neg c_122, show cl (nI p1) = p1 from nI_clamp (by omega), show cl (nI g1) = g1 from nI_clamp (by omega)]⟩)
              · refine g_goto hX 140 dM_seeds_125 (by decide) ?_
                refine g_iinc (v := (nI (i0 + 1))) (lv1 := [(0, .ref h), (1, .int (nI n1)), (2, .int z), (3, .int (nextSeedS (nextSeedS z0))), (4, .int k0), (5, .int (nI (i0 + 1))), (6, .int (nI p1)), (7, .int (nI g1))]) hX dM_seeds_140 5 rfl (inc_nat _) (by decide) [1, 2, 3, 4, 5, 0, 6, 7] rfl ?_
                refine g_goto hX 62 dM_seeds_143 (by decide) ?_
                refine g_lv (lv1 := [(0, .ref h), (1, .int (nI n1)), (2, .int z), (3, .int (nextSeedS (nextSeedS z0))), (4, .int k0), (5, .int (nI (i0 + 1)))]) [0, 1, 2, 3, 4, 5] rfl ?_
                exact ih_i0 V0 (nextSeedS (nextSeedS z0)) k0 (⟨hq_i0.1, hq_i0.2.1, hq_i0.2.2.1, by rw [← hq_i0.2.2.2, show n1 - i0 = (n1 - (i0 + 1)) + 1 by omega, sdL, ((hq_i0.1.2.1 1 (by decide) (by decide)).trans hP), ((hq_i0.1.2.1 0 (by decide) (by decide)).trans hL), ep1, eg1, if_pos c_122]⟩)
          exact hL_62 0 (Nat.zero_le _) (sr S 18 (pk S)) z 0 (⟨Mnd.start S, (hV.cong (sr_ne _ _ (by decide)) (sr_ne _ _ (by decide)) (sr_ne _ _ (by decide))), hLk.cong (sr_ne _ _ (by decide)) (sr_ne _ _ (by decide)) (sr_ne _ _ (by decide)), sdL_eq9 hL8 n1 z 0 S _ hL (Eq9.mem nL S)⟩)
        · refine g_aload_n hX dM_seeds_39 0 rfl ?_
          refine g_bipush (v := (-3)) hX dM_seeds_40 (by decide) ?_
          refine g_callV hX (con_M_no l Z h q S (-3) 3 (by decide) (by decide)) mvM_no q_676 rfl (by decide) 0 rfl rfl rfl (Nat.le_of_ble_eq_true rfl) dM_seeds_42 [0, 1, 2, 3, 4, 5, 6, 7, 8, 9, 10, 11, 12, 13, 14, 15, 16, 17, 18, 19, 20, 21] rfl (subM_all Z h q S) (g_fn (ws1 := wM Z h q (nob S 3)) (st1 := [.int (-3)]) (putM_all Z h q S (nob S 3)) rfl ?_)
          exact r_iret hX hQ dM_seeds_45 keysM (by rw [show mf_seeds S nP x z = ((-3), nob S 3) from by simp [mf_seeds, c_2, c_15, c_29, c_36]]; exact MIq_mk (Scr.rf))
    · refine g_aload_n hX dM_seeds_18 0 rfl ?_
      refine g_bipush (v := (-6)) hX dM_seeds_19 (by decide) ?_
      refine g_callV hX (con_M_no l Z h q S (-6) 6 (by decide) (by decide)) mvM_no q_676 rfl (by decide) 0 rfl rfl rfl (Nat.le_of_ble_eq_true rfl) dM_seeds_21 [0, 1, 2, 3, 4, 5, 6, 7, 8, 9, 10, 11, 12, 13, 14, 15, 16, 17, 18, 19, 20, 21] rfl (subM_all Z h q S) (g_fn (ws1 := wM Z h q (nob S 6)) (st1 := [.int (-6)]) (putM_all Z h q S (nob S 6)) rfl ?_)
      exact r_iret hX hQ dM_seeds_24 keysM (by rw [show mf_seeds S nP x z = ((-6), nob S 6) from by simp [mf_seeds, c_2, c_15]]; exact MIq_mk (Scr.rf))
  · refine g_aload_n hX dM_seeds_5 0 rfl ?_
    refine g_bipush (v := (-4)) hX dM_seeds_6 (by decide) ?_
    refine g_callV hX (con_M_no l Z h q S (-4) 4 (by decide) (by decide)) mvM_no q_676 rfl (by decide) 0 rfl rfl rfl (Nat.le_of_ble_eq_true rfl) dM_seeds_8 [0, 1, 2, 3, 4, 5, 6, 7, 8, 9, 10, 11, 12, 13, 14, 15, 16, 17, 18, 19, 20, 21] rfl (subM_all Z h q S) (g_fn (ws1 := wM Z h q (nob S 4)) (st1 := [.int (-4)]) (putM_all Z h q S (nob S 4)) rfl ?_)
    exact r_iret hX hQ dM_seeds_11 keysM (by rw [show mf_seeds S nP x z = ((-4), nob S 4) from by simp [mf_seeds, c_2]]; exact MIq_mk (Scr.rf))
