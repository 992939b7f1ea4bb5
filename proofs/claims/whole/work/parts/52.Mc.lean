/-! the Model: more -/
theorem nl_comm (X : St) {n : Nat} (a b : Int32) : sw (sw X 12 0 a) 6 n b = sw (sw X 6 n b) 12 0 a := by
  apply st_ext
  intro k j
  simp only [swv]
  by_cases e : k = 6 ∧ j = n
  · rw [if_pos e, if_neg (by omega), if_pos e]
  · rw [if_neg e]
    split
    · rfl
    · rfl
theorem add_in {V : St} {nL k g : Nat} {x y s c9 : Int32} (hg : g < nL) (hk : k ≠ 12) : addLock V nL x y s c9 k g = V k g := by
  unfold addLock
  simp only [swv]
  rw [if_neg (by omega), if_neg (by omega), if_neg (by omega), if_neg (by omega), if_neg (by omega), if_neg (by omega)]
theorem upN_lt {E : Nat → Nat} {k v g : Nat} (h : g < k) : upN E k v g = E g := if_neg (by omega)
theorem upN_at {E : Nat → Nat} {k v : Nat} : upN E k v k = v := if_pos rfl
theorem more_lks {S V : St} {nL p q : Nat} {o t c : Nat → Nat} (hs : Scr nL S V) (hLk : Lks S nL o t c) (hp : p < 7) (hq : q < 7) (hpq : p < q) : Lks (addLock V nL (nI p) (nI q) 0 1) (nL + 1) (upN o nL p) (upN t nL q) (upN c nL 1) := by
  intro g hg
  by_cases e : g = nL
  · subst e
    rw [upN_at, upN_at, upN_at]
    have e2 : addLock V g (nI p) (nI q) 0 1 2 g = nI p := by
      unfold addLock
      rw [swv, if_neg (by omega), swv, if_neg (by omega), swv, if_neg (by omega), swv, if_neg (by omega), swv, if_neg (by omega), swv, if_pos ⟨rfl, rfl⟩, mn_nI (by omega) (by omega), Nat.min_eq_left (by omega)]
    have e3 : addLock V g (nI p) (nI q) 0 1 3 g = nI q := by
      unfold addLock
      rw [swv, if_neg (by omega), swv, if_neg (by omega), swv, if_neg (by omega), swv, if_neg (by omega), swv, if_pos ⟨rfl, rfl⟩, mx_nI (by omega) (by omega), Nat.max_eq_right (by omega)]
    have e5 : addLock V g (nI p) (nI q) 0 1 5 g = nI 1 := by
      unfold addLock
      rw [swv, if_neg (by omega), swv, if_neg (by omega), swv, if_pos ⟨rfl, rfl⟩]
      rfl
    exact ⟨e2, e3, e5, hp, hq, by omega, by omega⟩
  · have hlt : g < nL := by omega
    have hx : ∀ k, 2 ≤ k → k ≤ 6 → V k g = S k g := fun k k1 k2 => hs k (by omega) (by omega) (by omega) (by omega) (by omega) g (by omega) (by omega)
    rw [add_in hlt (by decide), add_in hlt (by decide), add_in hlt (by decide), upN_lt hlt, upN_lt hlt, upN_lt hlt, hx 2 (by omega) (by omega), hx 3 (by omega) (by omega), hx 5 (by omega) (by omega)]
    exact hLk g hlt
theorem more_scr {S V : St} {nL : Nat} {x y s c9 : Int32} {F : Nat → Int32} (hs : Scr nL S V) (hL : S 12 0 = nI nL) : Scr nL S (sw (sr (addLock V nL x y s c9) 19 F) 12 0 (nI nL)) := by
  intro k h14 h18 h19 h20 h21 j h5 hl
  rw [swv]
  by_cases e : k = 12 ∧ j = 0
  · rw [if_pos e, e.1, e.2, hL]
  · rw [if_neg e, sr_ne _ _ h19]
    unfold addLock
    simp only [swv]
    rw [if_neg (by omega), if_neg (by omega), if_neg (by omega), if_neg (by omega), if_neg (by omega), if_neg (by omega)]
    exact hs k h14 h18 h19 h20 h21 j h5 hl
/-- the longest way, with one lock more -/
def lmx (D : Nat → Nat → Nat) (p q : Nat) : Nat → Nat
  | 0 => 0
  | n + 1 => max (lmx D p q n) (min (moreE D p q n) 10000)
theorem lmx_le (D : Nat → Nat → Nat) (p q : Nat) : ∀ n, lmx D p q n ≤ 10000
  | 0 => Nat.zero_le _
  | n + 1 => by
    have := lmx_le D p q n
    rw [lmx]
    omega
def bmI (D : Nat → Nat → Nat) (i : Nat) (s : Int32 × Nat) : Nat → Int32 × Nat
  | 0 => s
  | k + 1 => if i < k then (if (bmI D i s k).2 ≤ lmx D i k 6 then bmI D i s k else (nI (10 * i + k), lmx D i k 6)) else bmI D i s k
def bmO (D : Nat → Nat → Nat) : Nat → Int32 × Nat
  | 0 => (-9, 10000)
  | i + 1 => bmI D i (bmO D i) 7
theorem bmI_start (D : Nat → Nat → Nat) (i : Nat) (s : Int32 × Nat) : ∀ k, k ≤ i + 1 → bmI D i s k = s
  | 0, _ => rfl
  | k + 1, h => by rw [bmI, if_neg (by omega)]; exact bmI_start D i s k (by omega)
theorem bmI_le {D : Nat → Nat → Nat} {i : Nat} {s : Int32 × Nat} (h : s.2 ≤ 10000) : ∀ k, (bmI D i s k).2 ≤ 10000
  | 0 => h
  | k + 1 => by
    have ih := bmI_le (D := D) (i := i) h k
    rw [bmI]
    split
    · split
      · exact ih
      · exact lmx_le D i k 6
    · exact ih
theorem bmO_le (D : Nat → Nat → Nat) : ∀ i, (bmO D i).2 ≤ 10000
  | 0 => Nat.le_refl _
  | i + 1 => bmI_le (bmO_le D i) 7
theorem bm_keep {D : Nat → Nat → Nat} {i k e : Nat} {s : Int32 × Nat} {b : Int32} (h : bmI D i s k = (b, e)) (hs : s.2 ≤ 10000) (hc : ¬ nI (lmx D i k 6) < nI e) : bmI D i s (k + 1) = (b, e) := by
  have h1 := bmI_le (D := D) (i := i) hs k
  rw [h] at h1
  have h1' : e ≤ 10000 := h1
  have h2 := lmx_le D i k 6
  rw [nI_ltI (by omega) (by omega)] at hc
  rw [bmI, h]
  show (if i < k then (if e ≤ lmx D i k 6 then (b, e) else (nI (10 * i + k), lmx D i k 6)) else (b, e)) = (b, e)
  rw [if_pos (show e ≤ lmx D i k 6 by omega)]
  split <;> rfl
theorem bm_new {D : Nat → Nat → Nat} {i k e : Nat} {s : Int32 × Nat} {b : Int32} (h : bmI D i s k = (b, e)) (hs : s.2 ≤ 10000) (hik : i < k) (hc : nI (lmx D i k 6) < nI e) : bmI D i s (k + 1) = (nI (10 * i + k), lmx D i k 6) := by
  have h1 := bmI_le (D := D) (i := i) hs k
  rw [h] at h1
  have h1' : e ≤ 10000 := h1
  have h2 := lmx_le D i k 6
  rw [nI_ltI (by omega) (by omega)] at hc
  rw [bmI, h]
  show (if i < k then (if e ≤ lmx D i k 6 then (b, e) else (nI (10 * i + k), lmx D i k 6)) else (b, e)) = _
  rw [if_pos hik, if_neg (by omega)]
def mf_more (S : St) (D : Nat → Nat → Nat) (w : Int32) : Int32 × St := if wthS w 0 1 = 0 then (-2, nob S 2) else if (bmO D 7).1 < 0 then ((bmO D 7).1, S) else if ¬ w = 0 then (nI (bmO D 7).2, S) else ((bmO D 7).1, S)
set_option maxHeartbeats 4000000 in
set_option maxRecDepth 20000 in
theorem con_M_newLock (l : Launch) (Z : ZZ) (h : Nat) (q : Nat → Nat) (S : St) (x y s c9 : Int32) (nL : Nat) (hL : S 12 0 = nI nL) (hL7 : nL < 8) : Con l Z yM_newLock cM_newLock 5 none 1 [.ref h, .int x, .int y, .int s, .int c9] (wM Z h q S) (Fn none (wM Z h q (addLock S nL x y s c9))) := by
  refine Con.of (by decide) (Nat.le_of_ble_eq_true rfl) (fun X hX hQ => ?_)
  show G X Z (wM Z h q S) 0 [(0, .ref h), (1, .int x), (2, .int y), (3, .int s), (4, .int c9)] []
  refine g_aload_n hX dM_newLock_0 0 rfl ?_
  refine g_get hX 0 rfl rfl 3 (by decide) uu_M q_587 rfl rfl dM_newLock_1 ?_
  refine g_aload_n hX dM_newLock_4 0 rfl ?_
  refine g_get hX 0 rfl rfl 2 (by decide) uu_M q_586 rfl rfl dM_newLock_5 ?_
  refine g_top (y := (nI nL)) (by first | exact hL | (simp [sw]; exact hL)) ?_
  refine g_iload_n hX dM_newLock_8 1 rfl ?_
  refine g_iload_n hX dM_newLock_9 2 rfl ?_
  refine g_mmin (z := (mn x y)) hX q_704 q_298 q_12 q_299 dM_newLock_10 (by decide) (Nat.le_of_ble_eq_true rfl) (rfl) ?_
  refine g_ast (ws1 := wM Z h q (sw S 2 nL (mn x y))) hX 3 rfl nL (by omega) (by decide) (rfl) dM_newLock_13 (setM_S_2 Z h q S nL (mn x y)) ?_
  refine g_aload_n hX dM_newLock_14 0 rfl ?_
  refine g_get hX 0 rfl rfl 4 (by decide) uu_M q_588 rfl rfl dM_newLock_15 ?_
  refine g_aload_n hX dM_newLock_18 0 rfl ?_
  refine g_get hX 0 rfl rfl 2 (by decide) uu_M q_586 rfl rfl dM_newLock_19 ?_
  refine g_top (y := (nI nL)) (by first | exact hL | (simp [sw]; exact hL)) ?_
  refine g_iload_n hX dM_newLock_22 1 rfl ?_
  refine g_iload_n hX dM_newLock_23 2 rfl ?_
  refine g_mmax (z := (mx x y)) hX q_705 q_301 q_12 q_302 dM_newLock_24 (by decide) (Nat.le_of_ble_eq_true rfl) (rfl) ?_
  refine g_ast (ws1 := wM Z h q (sw (sw S 2 nL (mn x y)) 3 nL (mx x y))) hX 4 rfl nL (by omega) (by decide) (rfl) dM_newLock_27 (setM_S_3 Z h q (sw S 2 nL (mn x y)) nL (mx x y)) ?_
  refine g_aload_n hX dM_newLock_28 0 rfl ?_
  refine g_get hX 0 rfl rfl 5 (by decide) uu_M q_589 rfl rfl dM_newLock_29 ?_
  refine g_aload_n hX dM_newLock_32 0 rfl ?_
  refine g_get hX 0 rfl rfl 2 (by decide) uu_M q_586 rfl rfl dM_newLock_33 ?_
  refine g_top (y := (nI nL)) (by first | exact hL | (simp [sw]; exact hL)) ?_
  refine g_iload_n hX dM_newLock_36 3 rfl ?_
  refine g_ast (ws1 := wM Z h q (sw (sw (sw S 2 nL (mn x y)) 3 nL (mx x y)) 4 nL s)) hX 5 rfl nL (by omega) (by decide) (rfl) dM_newLock_37 (setM_S_4 Z h q (sw (sw S 2 nL (mn x y)) 3 nL (mx x y)) nL s) ?_
  refine g_aload_n hX dM_newLock_38 0 rfl ?_
  refine g_get hX 0 rfl rfl 6 (by decide) uu_M q_590 rfl rfl dM_newLock_39 ?_
  refine g_aload_n hX dM_newLock_42 0 rfl ?_
  refine g_get hX 0 rfl rfl 2 (by decide) uu_M q_586 rfl rfl dM_newLock_43 ?_
  refine g_top (y := (nI nL)) (by first | exact hL | (simp [sw]; exact hL)) ?_
  refine g_iload hX dM_newLock_46 4 rfl ?_
  refine g_ast (ws1 := wM Z h q (sw (sw (sw (sw S 2 nL (mn x y)) 3 nL (mx x y)) 4 nL s) 5 nL c9)) hX 6 rfl nL (by omega) (by decide) (rfl) dM_newLock_48 (setM_S_5 Z h q (sw (sw (sw S 2 nL (mn x y)) 3 nL (mx x y)) 4 nL s) nL c9) ?_
  refine g_aload_n hX dM_newLock_49 0 rfl ?_
  refine g_get hX 0 rfl rfl 7 (by decide) uu_M q_591 rfl rfl dM_newLock_50 ?_
  refine g_aload_n hX dM_newLock_53 0 rfl ?_
  refine g_dup hX dM_newLock_54 rfl ?_
  refine g_get hX 0 rfl rfl 2 (by decide) uu_M q_586 rfl rfl dM_newLock_55 ?_
  refine g_top (y := (nI nL)) (by first | exact hL | (simp [sw]; exact hL)) ?_
  refine g_dup_x1 hX dM_newLock_58 rfl rfl ?_
  refine g_iconst (v := 1) hX dM_newLock_59 (by decide) ?_
  refine g_iadd (z := (nI (nL + 1))) hX dM_newLock_60 (nI_add nL 1) ?_
  refine g_put (ws1 := wM Z h q (sw (sw (sw (sw (sw S 2 nL (mn x y)) 3 nL (mx x y)) 4 nL s) 5 nL c9) 12 0 (nI (nL + 1)))) hX 0 rfl rfl 2 (by decide) uu_M tyF_M tyF_M_ok nmF_M q_586 rfl rfl rfl rfl rfl (Nat.le_of_ble_eq_true rfl) dM_newLock_61 (fldM_S_12_0 Z h q (sw (sw (sw (sw S 2 nL (mn x y)) 3 nL (mx x y)) 4 nL s) 5 nL c9) (nI (nL + 1))) ?_
  refine g_iconst (v := 0) hX dM_newLock_64 (by decide) ?_
  refine g_ast (ws1 := wM Z h q (sw (sw (sw (sw (sw (sw S 2 nL (mn x y)) 3 nL (mx x y)) 4 nL s) 5 nL c9) 12 0 (nI (nL + 1))) 6 nL 0)) hX 7 rfl nL (by omega) (by decide) (rfl) dM_newLock_65 (setM_S_6 Z h q (sw (sw (sw (sw (sw S 2 nL (mn x y)) 3 nL (mx x y)) 4 nL s) 5 nL c9) 12 0 (nI (nL + 1))) nL 0) ?_
  refine g_eq (ws1 := wM Z h q (addLock S nL x y s c9)) (congrArg (wM Z h q) (nl_comm _ _ _)) rfl rfl ?_
  exact r_vret hX hQ dM_newLock_66 keysM (⟨rfl, rfl⟩)
set_option maxHeartbeats 4000000 in
set_option maxRecDepth 20000 in
theorem con_M_more (l : Launch) (Z : ZZ) (h : Nat) (q : Nat → Nat) (S : St) (w : Int32) (nL : Nat) (hL : S 12 0 = nI nL) (hL7 : nL ≤ 7) (o t c : Nat → Nat) (hLk : Lks S nL o t c) (hc1 : ∀ g, g < nL → 1 ≤ c g) : Con l Z yM_more cM_more 8 (some .int) 3 [.ref h, .int w] (wM Z h q S) (MIq Z h q nL (mf_more S (dst o t c nL) w)) := by
  refine Con.of (by decide) (Nat.le_of_ble_eq_true rfl) (fun X hX hQ => ?_)
  show G X Z (wM Z h q S) 0 [(0, .ref h), (1, .int w)] []
  refine g_iload_n hX dM_more_0 1 rfl ?_
  refine g_iconst (v := 0) hX dM_more_1 (by decide) ?_
  refine g_iconst (v := 1) hX dM_more_2 (by decide) ?_
  refine g_callS hX (con_M_within l Z w 0 1) msM_within q_762 rfl (by decide) rfl (Nat.le_of_ble_eq_true rfl) dM_more_3 [] rfl (rfl) (g_fn (ws1 := wM Z h q S) (st1 := [.int (wthS w 0 1)]) (rfl) rfl ?_)
  refine g_if_ne hX 16 dM_more_6 (by decide) (fun c_6 => ?_) (fun c_6 => ?_)
  · refine g_bipush (v := (-9)) hX dM_more_16 (by decide) ?_
    refine g_istore_n (lv1 := [(0, .ref h), (1, .int w), (2, .int (-9))]) hX dM_more_18 (by decide) [1, 2, 0] rfl ?_
    refine g_sipush (v := 10000) hX dM_more_19 (by decide) ?_
    refine g_istore_n (lv1 := [(0, .ref h), (1, .int w), (2, .int (-9)), (3, .int 10000)]) hX dM_more_22 (by decide) [1, 2, 3, 0] rfl ?_
    refine g_iconst (v := 0) hX dM_more_23 (by decide) ?_
    refine g_istore (lv1 := [(0, .ref h), (1, .int w), (2, .int (-9)), (3, .int 10000), (4, .int 0)]) hX dM_more_24 (by decide) [1, 2, 3, 4, 0] rfl ?_
    have hL_26 : ∀ p0, p0 ≤ 7 → ∀ (b0 : Int32) (e0 : Nat) (V0 : St), bmO (dst o t c nL) p0 = (b0, e0) ∧ Scr nL S V0 → G X Z (wM Z h q V0) 26 [(0, .ref h), (1, .int w), (2, .int b0), (3, .int (nI e0)), (4, .int (nI p0))] [] := by
      refine loopUp _ 7 ?_ (fun p0 hi_p0 ih_p0 => ?_)
      · intro b0 e0 V0 hq_p0
        refine g_iload hX dM_more_26 4 rfl ?_
        refine g_bipush (v := 7) hX dM_more_28 (by decide) ?_
        refine g_icmp_ge hX 138 dM_more_30 (by decide) (fun c_30 => ?_) (fun c_30 => absurd (nI_le (a := 7) (b := 7) (Nat.le_refl _) (by omega)) c_30)
        refine g_iload_n hX dM_more_138 2 rfl ?_
        refine g_if_lt hX 146 dM_more_139 (by decide) (fun c_139 => ?_) (fun c_139 => ?_)
        · refine g_iload_n hX dM_more_146 2 rfl ?_
          refine g_goto hX 151 dM_more_147 (by decide) ?_
          exact r_iret hX hQ dM_more_151 keysM (by rw [show mf_more S (dst o t c nL) w = (b0, S) from by rw [mf_more, if_neg c_6, hq_p0.1]; simp [c_139]]; exact MIq_mk hq_p0.2)
        · refine g_iload_n hX dM_more_142 1 rfl ?_
          refine g_if_ne hX 150 dM_more_143 (by decide) (fun c_143 => ?_) (fun c_143 => ?_)
          · refine g_iload_n hX dM_more_150 3 rfl ?_
            exact r_iret hX hQ dM_more_151 keysM (by rw [show mf_more S (dst o t c nL) w = ((nI e0), S) from by rw [mf_more, if_neg c_6, hq_p0.1]; simp [c_139, c_143]]; exact MIq_mk hq_p0.2)
          · refine g_iload_n hX dM_more_146 2 rfl ?_
            refine g_goto hX 151 dM_more_147 (by decide) ?_
            exact r_iret hX hQ dM_more_151 keysM (by rw [show mf_more S (dst o t c nL) w = (b0, S) from by rw [mf_more, if_neg c_6, hq_p0.1]; simp [c_139, c_143]]; exact MIq_mk hq_p0.2)
      · intro b0 e0 V0 hq_p0
        refine g_iload hX dM_more_26 4 rfl ?_
        refine g_bipush (v := 7) hX dM_more_28 (by decide) ?_
        refine g_icmp_ge hX 138 dM_more_30 (by decide) (fun c_30 => absurd c_30 (nI_ge (a := p0) (b := 7) hi_p0 (by omega))) (fun c_30 => ?_)
        refine g_iload hX dM_more_33 4 rfl ?_
        refine g_iconst (v := 1) hX dM_more_35 (by decide) ?_
        refine g_iadd (z := (nI (p0 + 1))) hX dM_more_36 (nI_add p0 1) ?_
        refine g_istore (lv1 := [(0, .ref h), (1, .int w), (2, .int b0), (3, .int (nI e0)), (4, .int (nI p0)), (5, .int (nI (p0 + 1)))]) hX dM_more_37 (by decide) [1, 2, 3, 4, 5, 0] rfl ?_
        have hL_39 : ∀ q0, q0 ≤ 7 → ∀ (b1 : Int32) (e1 : Nat) (V1 : St), bmI (dst o t c nL) p0 (bmO (dst o t c nL) p0) q0 = (b1, e1) ∧ p0 < q0 ∧ Scr nL S V1 → G X Z (wM Z h q V1) 39 [(0, .ref h), (1, .int w), (2, .int b1), (3, .int (nI e1)), (4, .int (nI p0)), (5, .int (nI q0))] [] := by
          refine loopUp _ 7 ?_ (fun q0 hi_q0 ih_q0 => ?_)
          · intro b1 e1 V1 hq_q0
            refine g_iload hX dM_more_39 5 rfl ?_
            refine g_bipush (v := 7) hX dM_more_41 (by decide) ?_
            refine g_icmp_ge hX 132 dM_more_43 (by decide) (fun c_43 => ?_) (fun c_43 => absurd (nI_le (a := 7) (b := 7) (Nat.le_refl _) (by omega)) c_43)
            refine g_iinc (v := (nI (p0 + 1))) (lv1 := [(0, .ref h), (1, .int w), (2, .int b1), (3, .int (nI e1)), (4, .int (nI (p0 + 1))), (5, .int (nI 7))]) hX dM_more_132 4 rfl (inc_nat _) (by decide) [1, 2, 3, 4, 0, 5] rfl ?_
            refine g_goto hX 26 dM_more_135 (by decide) ?_
            refine g_lv (lv1 := [(0, .ref h), (1, .int w), (2, .int b1), (3, .int (nI e1)), (4, .int (nI (p0 + 1)))]) [0, 1, 2, 3, 4] rfl ?_
            exact ih_p0 b1 e1 V1 (⟨hq_q0.1, hq_q0.2.2⟩)
          · intro b1 e1 V1 hq_q0
            refine g_iload hX dM_more_39 5 rfl ?_
            refine g_bipush (v := 7) hX dM_more_41 (by decide) ?_
            refine g_icmp_ge hX 132 dM_more_43 (by decide) (fun c_43 => absurd c_43 (nI_ge (a := q0) (b := 7) hi_q0 (by omega))) (fun c_43 => ?_)
            refine g_aload_n hX dM_more_46 0 rfl ?_
            refine g_iload hX dM_more_47 4 rfl ?_
            refine g_iload hX dM_more_49 5 rfl ?_
            refine g_iconst (v := 0) hX dM_more_51 (by decide) ?_
            refine g_iconst (v := 1) hX dM_more_52 (by decide) ?_
            refine g_callV hX (con_M_newLock l Z h q V1 (nI p0) (nI q0) 0 1 nL ((hq_q0.2.2 12 (by decide) (by decide) (by decide) (by decide) (by decide) 0 (by omega) (by omega)).trans hL) (by omega)) mvM_newLock q_700 rfl (by decide) 0 rfl rfl rfl (Nat.le_of_ble_eq_true rfl) dM_more_53 [0, 1, 2, 3, 4, 5, 6, 7, 8, 9, 10, 11, 12, 13, 14, 15, 16, 17, 18, 19, 20, 21] rfl (subM_all Z h q V1) (g_fn (ws1 := wM Z h q (addLock V1 nL (nI p0) (nI q0) 0 1)) (st1 := []) (putM_all Z h q V1 (addLock V1 nL (nI p0) (nI q0) 0 1)) rfl ?_)
            have hlk9 := more_lks hq_q0.2.2 hLk hi_p0 hi_q0 hq_q0.2.1
            have hc9 : ∀ g, g < nL + 1 → 1 ≤ upN c nL 1 g := fun g hg => by
                by_cases e : g = nL
                · rw [e, upN_at]; exact Nat.le_refl _
                · rw [upN_lt (by omega)]; exact hc1 g (by omega)
            have hme : ∀ r, r < 7 → dst (upN o nL p0) (upN t nL q0) (upN c nL 1) (nL + 1) 6 r = moreE (dst o t c nL) p0 q0 r := fun r hr => more_eq (hLk.num hc1) hi_p0 hi_q0 (by omega) (fun g hg => ⟨upN_lt hg, upN_lt hg, upN_lt hg⟩) upN_at upN_at upN_at hr
            refine g_aload_n hX dM_more_56 0 rfl ?_
            refine g_bipush (v := 6) hX dM_more_57 (by decide) ?_
            refine g_callV hX (con_M_walk l Z h q (addLock V1 nL (nI p0) (nI q0) 0 1) (nL + 1) (by unfold addLock; rw [swv, if_pos ⟨rfl, rfl⟩]) (by omega) (upN o nL p0) (upN t nL q0) (upN c nL 1) hlk9 hc9 6 (by omega)) mvM_walk q_855 rfl (by decide) 0 rfl rfl rfl (Nat.le_of_ble_eq_true rfl) dM_more_59 [0, 1, 2, 3, 4, 5, 6, 7, 8, 9, 10, 11, 12, 13, 14, 15, 16, 17, 18, 19, 20, 21] rfl (subM_all Z h q (addLock V1 nL (nI p0) (nI q0) 0 1)) (fun v w hp => ?_)
            obtain ⟨rfl, F0, hF_F0, rfl⟩ := hp
            refine g_eq (ws1 := wM Z h q (sr (addLock V1 nL (nI p0) (nI q0) 0 1) 19 F0)) (st1 := []) (putM_all Z h q (addLock V1 nL (nI p0) (nI q0) 0 1) _) rfl rfl ?_
            refine g_aload_n hX dM_more_62 0 rfl ?_
            refine g_dup hX dM_more_63 rfl ?_
            refine g_get hX 0 rfl rfl 2 (by decide) uu_M q_586 rfl rfl dM_more_64 ?_
            refine g_top (y := (nI (nL + 1))) (by rw [sr_ne _ _ (by decide)]; unfold addLock; rw [swv, if_pos ⟨rfl, rfl⟩]) ?_
            refine g_iconst (v := 1) hX dM_more_67 (by decide) ?_
            refine g_isub (z := (nI nL)) hX dM_more_68 (pk_sub (a := nL + 1) (b := 1) (by omega)) ?_
            refine g_put (ws1 := wM Z h q (sw (sr (addLock V1 nL (nI p0) (nI q0) 0 1) 19 F0) 12 0 (nI nL))) hX 0 rfl rfl 2 (by decide) uu_M tyF_M tyF_M_ok nmF_M q_586 rfl rfl rfl rfl rfl (Nat.le_of_ble_eq_true rfl) dM_more_69 (fldM_S_12_0 Z h q (sr (addLock V1 nL (nI p0) (nI q0) 0 1) 19 F0) (nI nL)) ?_
            refine g_iconst (v := 0) hX dM_more_72 (by decide) ?_
            refine g_istore (lv1 := [(0, .ref h), (1, .int w), (2, .int b1), (3, .int (nI e1)), (4, .int (nI p0)), (5, .int (nI q0)), (6, .int 0)]) hX dM_more_73 (by decide) [1, 2, 3, 4, 5, 6, 0] rfl ?_
            refine g_iconst (v := 0) hX dM_more_75 (by decide) ?_
            refine g_istore (lv1 := [(0, .ref h), (1, .int w), (2, .int b1), (3, .int (nI e1)), (4, .int (nI p0)), (5, .int (nI q0)), (6, .int 0), (7, .int 0)]) hX dM_more_76 (by decide) [1, 2, 3, 4, 5, 6, 7, 0] rfl ?_
            have hL_78 : ∀ r0, r0 ≤ 6 → G X Z (wM Z h q (sw (sr (addLock V1 nL (nI p0) (nI q0) 0 1) 19 F0) 12 0 (nI nL))) 78 [(0, .ref h), (1, .int w), (2, .int b1), (3, .int (nI e1)), (4, .int (nI p0)), (5, .int (nI q0)), (6, .int (nI (lmx (dst o t c nL) p0 q0 r0))), (7, .int (nI r0))] [] := by
              refine loopUp _ 6 ?_ (fun r0 hi_r0 ih_r0 => ?_)
              · skip
                refine g_iload hX dM_more_78 7 rfl ?_
                refine g_bipush (v := 6) hX dM_more_80 (by decide) ?_
                refine g_icmp_ge hX 105 dM_more_82 (by decide) (fun c_82 => ?_) (fun c_82 => absurd (nI_le (a := 6) (b := 6) (Nat.le_refl _) (by omega)) c_82)
                refine g_iload hX dM_more_105 6 rfl ?_
                refine g_iload_n hX dM_more_107 3 rfl ?_
                refine g_icmp_lt hX 114 dM_more_108 (by decide) (fun c_108 => ?_) (fun c_108 => ?_)
                · refine g_iload hX dM_more_114 6 rfl ?_
                  refine g_istore_n (lv1 := [(0, .ref h), (1, .int w), (2, .int b1), (3, .int (nI (lmx (dst o t c nL) p0 q0 6))), (4, .int (nI p0)), (5, .int (nI q0)), (6, .int (nI (lmx (dst o t c nL) p0 q0 6))), (7, .int (nI 6))]) hX dM_more_116 (by decide) [1, 2, 3, 0, 4, 5, 6, 7] rfl ?_
                  refine g_bipush (v := 10) hX dM_more_117 (by decide) ?_
                  refine g_iload hX dM_more_119 4 rfl ?_
                  refine g_imul (z := (nI (10 * p0))) hX dM_more_121 (pk_mul 10 p0) ?_
                  refine g_iload hX dM_more_122 5 rfl ?_
                  refine g_iadd (z := (nI ((10 * p0) + q0))) hX dM_more_124 (nI_add (10 * p0) q0) ?_
                  refine g_istore_n (lv1 := [(0, .ref h), (1, .int w), (2, .int (nI ((10 * p0) + q0))), (3, .int (nI (lmx (dst o t c nL) p0 q0 6))), (4, .int (nI p0)), (5, .int (nI q0)), (6, .int (nI (lmx (dst o t c nL) p0 q0 6))), (7, .int (nI 6))]) hX dM_more_125 (by decide) [1, 2, 0, 3, 4, 5, 6, 7] rfl ?_
                  refine g_iinc (v := (nI (q0 + 1))) (lv1 := [(0, .ref h), (1, .int w), (2, .int (nI ((10 * p0) + q0))), (3, .int (nI (lmx (dst o t c nL) p0 q0 6))), (4, .int (nI p0)), (5, .int (nI (q0 + 1))), (6, .int (nI (lmx (dst o t c nL) p0 q0 6))), (7, .int (nI 6))]) hX dM_more_126 5 rfl (inc_nat _) (by decide) [1, 2, 3, 4, 5, 0, 6, 7] rfl ?_
                  refine g_goto hX 39 dM_more_129 (by decide) ?_
                  refine g_lv (lv1 := [(0, .ref h), (1, .int w), (2, .int (nI ((10 * p0) + q0))), (3, .int (nI (lmx (dst o t c nL) p0 q0 6))), (4, .int (nI p0)), (5, .int (nI (q0 + 1)))]) [0, 1, 2, 3, 4, 5] rfl ?_
                  exact ih_q0 (nI ((10 * p0) + q0)) (lmx (dst o t c nL) p0 q0 6) (sw (sr (addLock V1 nL (nI p0) (nI q0) 0 1) 19 F0) 12 0 (nI nL)) (⟨bm_new hq_q0.1 (bmO_le _ p0) hq_q0.2.1 c_108, by omega, more_scr hq_q0.2.2 hL⟩)
                · refine g_goto hX 126 dM_more_111 (by decide) ?_
                  refine g_iinc (v := (nI (q0 + 1))) (lv1 := [(0, .ref h), (1, .int w), (2, .int b1), (3, .int (nI e1)), (4, .int (nI p0)), (5, .int (nI (q0 + 1))), (6, .int (nI (lmx (dst o t c nL) p0 q0 6))), (7, .int (nI 6))]) hX dM_more_126 5 rfl (inc_nat _) (by decide) [1, 2, 3, 4, 5, 0, 6, 7] rfl ?_
                  refine g_goto hX 39 dM_more_129 (by decide) ?_
                  refine g_lv (lv1 := [(0, .ref h), (1, .int w), (2, .int b1), (3, .int (nI e1)), (4, .int (nI p0)), (5, .int (nI (q0 + 1)))]) [0, 1, 2, 3, 4, 5] rfl ?_
                  exact ih_q0 b1 e1 (sw (sr (addLock V1 nL (nI p0) (nI q0) 0 1) 19 F0) 12 0 (nI nL)) (⟨bm_keep hq_q0.1 (bmO_le _ p0) c_108, by omega, more_scr hq_q0.2.2 hL⟩)
              · skip
                refine g_iload hX dM_more_78 7 rfl ?_
                refine g_bipush (v := 6) hX dM_more_80 (by decide) ?_
                refine g_icmp_ge hX 105 dM_more_82 (by decide) (fun c_82 => absurd c_82 (nI_ge (a := r0) (b := 6) hi_r0 (by omega))) (fun c_82 => ?_)
                refine g_iload hX dM_more_85 6 rfl ?_
                refine g_aload_n hX dM_more_87 0 rfl ?_
                refine g_get hX 0 rfl rfl 26 (by decide) uu_M q_610 rfl rfl dM_more_88 ?_
                refine g_iload hX dM_more_91 7 rfl ?_
                refine g_ald (v := (nI (min (moreE (dst o t c nL) p0 q0 r0) 10000))) hX 19 rfl r0 (by omega) (by decide) (rfl) (by rw [sw_ne _ _ _ (by decide), sr_eq, hF_F0 r0 (by omega), hme r0 (by omega)]) dM_more_93 ?_
                refine g_mmax (z := (nI (lmx (dst o t c nL) p0 q0 (r0 + 1)))) hX q_705 q_301 q_12 q_302 dM_more_94 (by decide) (Nat.le_of_ble_eq_true rfl) (mx_nI (Nat.lt_of_le_of_lt (lmx_le _ _ _ _) (by decide)) (by omega)) ?_
                refine g_istore (lv1 := [(0, .ref h), (1, .int w), (2, .int b1), (3, .int (nI e1)), (4, .int (nI p0)), (5, .int (nI q0)), (6, .int (nI (lmx (dst o t c nL) p0 q0 (r0 + 1)))), (7, .int (nI r0))]) hX dM_more_97 (by decide) [1, 2, 3, 4, 5, 6, 0, 7] rfl ?_
                refine g_iinc (v := (nI (r0 + 1))) (lv1 := [(0, .ref h), (1, .int w), (2, .int b1), (3, .int (nI e1)), (4, .int (nI p0)), (5, .int (nI q0)), (6, .int (nI (lmx (dst o t c nL) p0 q0 (r0 + 1)))), (7, .int (nI (r0 + 1)))]) hX dM_more_99 7 rfl (inc_nat _) (by decide) [1, 2, 3, 4, 5, 6, 7, 0] rfl ?_
                refine g_goto hX 78 dM_more_102 (by decide) ?_
                exact ih_r0
            exact hL_78 0 (Nat.zero_le _)
        exact hL_39 (p0 + 1) (by omega) b0 e0 V0 (⟨by rw [bmI_start _ p0 _ _ (Nat.le_refl _)]; exact hq_p0.1, by omega, hq_p0.2⟩)
    exact hL_26 0 (Nat.zero_le _) (-9) 10000 S (⟨rfl, Scr.rf⟩)
  · refine g_aload_n hX dM_more_9 0 rfl ?_
    refine g_bipush (v := (-2)) hX dM_more_10 (by decide) ?_
    refine g_callV hX (con_M_no l Z h q S (-2) 2 (by decide) (by decide)) mvM_no q_676 rfl (by decide) 0 rfl rfl rfl (Nat.le_of_ble_eq_true rfl) dM_more_12 [0, 1, 2, 3, 4, 5, 6, 7, 8, 9, 10, 11, 12, 13, 14, 15, 16, 17, 18, 19, 20, 21] rfl (subM_all Z h q S) (g_fn (ws1 := wM Z h q (nob S 2)) (st1 := [.int (-2)]) (putM_all Z h q S (nob S 2)) rfl ?_)
    exact r_iret hX hQ dM_more_15 keysM (by rw [show mf_more S (dst o t c nL) w = ((-2), nob S 2) from by simp [mf_more, c_6]]; exact MIq_mk (Scr.rf))
