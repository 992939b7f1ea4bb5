/-! the Model: gauges -/
/-- whether the air behind so many minutes is as told, of the first so many rooms -/
def isoF (S : St) (nP n : Nat) : Nat → Int32
  | 0 => 1
  | r + 1 => if liveN nP S n 0 r = S 15 r then isoF S nP n r else 0
theorem isoF_01 (S : St) (nP n : Nat) : ∀ r, isoF S nP n r = 0 ∨ isoF S nP n r = 1
  | 0 => Or.inr rfl
  | r + 1 => by
    rw [isoF]
    exact ite01 (isoF_01 S nP n r) (Or.inl rfl)
theorem iso_end {S V : St} {f : Nat → Int32} (h : V 14 = S 14) : sr (sr S 18 f) 14 (V 14) = sr S 18 f := by
  apply st_ext
  intro k j
  by_cases e : k = 14
  · subst e
    rw [sr_eq, sr_ne _ _ (by decide), h]
  · rw [sr_ne _ _ e]
/-- all but row 18 -/
def O18 (S V : St) : Prop := ∀ k, k ≠ 18 → V k = S k
theorem O18.rf {S : St} : O18 S S := fun _ _ => rfl
theorem O18.back {S V : St} (h : O18 S V) {j : Nat} {v : Int32} {f : Nat → Int32} : O18 S (sw (sr (sw V 1 j v) 18 f) 1 j (S 1 j)) := fun k hk => by
  apply funext
  intro i
  rw [swv]
  by_cases e : k = 1 ∧ i = j
  · rw [if_pos e, e.1, e.2]
  · rw [if_neg e, sr_ne _ _ hk, swv, if_neg e, h k hk]
theorem O18.scr {nL : Nat} {S V : St} (h : O18 S V) : Scr nL S V := fun k _ h18 _ _ _ j _ _ => by rw [h k h18]
theorem iso_cong {S V : St} {nP n j : Nat} {v : Int32} (h : O18 S V) : ∀ r, isoF (sw V 1 j v) nP n r = isoF (sw S 1 j v) nP n r
  | 0 => rfl
  | r + 1 => by
    have h9 : Eq9 0 (sw S 1 j v) (sw V 1 j v) := by
      refine ⟨fun k hk => ?_, fun k _ _ g hg => by omega, fun i _ => ?_⟩
      · apply funext
        intro i
        rw [swv, swv, h k (by omega)]
      · rw [swv, swv, h 12 (by decide)]
    have e15 : sw V 1 j v 15 r = sw S 1 j v 15 r := by rw [swv, swv, h 15 (by decide)]
    rw [isoF, isoF, iso_cong h r, (h9.live n).1 0 (Or.inl rfl), e15]
def gz (S : St) (nP n j v : Nat) : Int32 := if nI v = S 1 j then 0 else isoF (sw S 1 j (nI v)) nP n 6
def gmI (S : St) (nP n j : Nat) (k : Int32) : Nat → Int32
  | 0 => k
  | v + 1 => if gz S nP n j v = 0 then gmI S nP n j k v else gmI S nP n j k v + 1
def gfI (S : St) (nP n j : Nat) (e : Int32) : Nat → Int32
  | 0 => e
  | v + 1 => if gz S nP n j v = 0 then gfI S nP n j e v else if gfI S nP n j e v = -9 then nI (10 * j + v) else gfI S nP n j e v
def gmO (S : St) (nP n : Nat) : Nat → Int32
  | 0 => 0
  | j + 1 => gmI S nP n j (gmO S nP n j) 10
def gfO (S : St) (nP n : Nat) : Nat → Int32
  | 0 => -9
  | j + 1 => gfI S nP n j (gfO S nP n j) 10
theorem gz_eq {S : St} {nP n j v : Nat} (h : nI v = S 1 j) : gz S nP n j v = 0 := if_pos h
theorem gz_ne {S : St} {nP n j v : Nat} (h : ¬ nI v = S 1 j) : gz S nP n j v = isoF (sw S 1 j (nI v)) nP n 6 := if_neg h
theorem gz_no {S : St} {nP n j v : Nat} {k f k0 f0 : Int32} (h : gz S nP n j v = 0) (hq : k = gmI S nP n j k0 v ∧ f = gfI S nP n j f0 v) : k = gmI S nP n j k0 (v + 1) ∧ f = gfI S nP n j f0 (v + 1) := by
  rw [gmI, gfI, if_pos h, if_pos h]
  exact hq
theorem gz_old {S : St} {nP n j v : Nat} {k f k0 f0 : Int32} (h : ¬ gz S nP n j v = 0) (hq : k = gmI S nP n j k0 v ∧ f = gfI S nP n j f0 v) (hf : ¬ f = -9) : k + 1 = gmI S nP n j k0 (v + 1) ∧ f = gfI S nP n j f0 (v + 1) := by
  rw [gmI, gfI, if_neg h, if_neg h, ← hq.2, ← hq.1, if_neg hf]
  exact ⟨rfl, rfl⟩
theorem gz_new {S : St} {nP n j v : Nat} {k f k0 f0 : Int32} (h : ¬ gz S nP n j v = 0) (hq : k = gmI S nP n j k0 v ∧ f = gfI S nP n j f0 v) (hf : f = -9) : k + 1 = gmI S nP n j k0 (v + 1) ∧ nI (10 * j + v) = gfI S nP n j f0 (v + 1) := by
  rw [gmI, gfI, if_neg h, if_neg h, ← hq.2, ← hq.1, if_pos hf]
  exact ⟨rfl, rfl⟩
def mf_gauges (S : St) (nP nR : Nat) (x w : Int32) : Int32 × St := if 0 ≤ x then (if x ≤ 99 then (if wthS w 0 2 = 0 then (-2, nob S 2) else if nI nR = 6 then (if w = 2 then (if isoF S nP (cl x) 6 = 0 then (0, S) else (1, S)) else if w = 0 then (gmO S nP (cl x) 6, S) else (gfO S nP (cl x) 6, S)) else (-3, nob S 3)) else (-6, nob S 6)) else (-4, nob S 4)
set_option maxHeartbeats 4000000 in
set_option maxRecDepth 20000 in
theorem con_M_isSo (l : Launch) (Z : ZZ) (h : Nat) (q : Nat → Nat) (S : St) (n : Nat) (hn : n < 2 ^ 31) (nP : Nat) (hP : S 12 1 = nI nP) (hP5 : nP ≤ 5) (hV : Vd S nP) : Con l Z yM_isSo cM_isSo 4 (some .boolean) 4 [.ref h, .int (nI n)] (wM Z h q S) (Fn (some (.int (isoF S nP n 6))) (wM Z h q (sr S 18 (pk S)))) := by
  refine Con.of (by decide) (Nat.le_of_ble_eq_true rfl) (fun X hX hQ => ?_)
  show G X Z (wM Z h q S) 0 [(0, .ref h), (1, .int (nI n))] []
  refine g_aload_n hX dM_isSo_0 0 rfl ?_
  refine g_aload_n hX dM_isSo_1 0 rfl ?_
  refine g_get hX 0 rfl rfl 25 (by decide) uu_M q_609 rfl rfl dM_isSo_2 ?_
  refine g_callV hX (con_M_keep_18 l Z h q S) mvM_keep q_765 rfl (by decide) 0 rfl rfl rfl (Nat.le_of_ble_eq_true rfl) dM_isSo_5 [0, 1, 2, 3, 4, 5, 6, 7, 8, 9, 10, 11, 12, 13, 14, 15, 16, 17, 18, 19, 20, 21] rfl (subM_all Z h q S) (g_fn (ws1 := wM Z h q (sr S 18 (pk S))) (st1 := []) (putM_all Z h q S (sr S 18 (pk S))) rfl ?_)
  refine g_aload_n hX dM_isSo_8 0 rfl ?_
  refine g_iload_n hX dM_isSo_9 1 rfl ?_
  refine g_callV hX (con_M_goBy l Z h q (sr S 18 (pk S)) n hn nP (by rw [sr_ne _ _ (by decide)]; exact hP) hP5 (hV.cong (sr_ne _ _ (by decide)) (sr_ne _ _ (by decide)) (sr_ne _ _ (by decide)))) mvM_goBy q_824 rfl (by decide) 0 rfl rfl rfl (Nat.le_of_ble_eq_true rfl) dM_isSo_10 [0, 1, 2, 3, 4, 5, 6, 7, 8, 9, 10, 11, 12, 13, 14, 15, 16, 17, 18, 19, 20, 21] rfl (subM_all Z h q (sr S 18 (pk S))) (g_fn (ws1 := wM Z h q (liveN nP (sr S 18 (pk S)) n)) (st1 := [.int (liveN nP (sr S 18 (pk S)) n 12 3 - (sr S 18 (pk S)) 12 3)]) (putM_all Z h q (sr S 18 (pk S)) (liveN nP (sr S 18 (pk S)) n)) rfl ?_)
  refine g_pop hX dM_isSo_13 rfl ?_
  refine g_iconst (v := 1) hX dM_isSo_14 (by decide) ?_
  refine g_istore_n (lv1 := [(0, .ref h), (1, .int (nI n)), (2, .int 1)]) hX dM_isSo_15 (by decide) [1, 2, 0] rfl ?_
  refine g_iconst (v := 0) hX dM_isSo_16 (by decide) ?_
  refine g_istore_n (lv1 := [(0, .ref h), (1, .int (nI n)), (2, .int 1), (3, .int 0)]) hX dM_isSo_17 (by decide) [1, 2, 3, 0] rfl ?_
  have hL_18 : ∀ i0, i0 ≤ 6 → G X Z (wM Z h q (liveN nP (sr S 18 (pk S)) n)) 18 [(0, .ref h), (1, .int (nI n)), (2, .int (isoF S nP n i0)), (3, .int (nI i0))] [] := by
    refine loopUp _ 6 ?_ (fun i0 hi_i0 ih_i0 => ?_)
    · skip
      refine g_iload_n hX dM_isSo_18 3 rfl ?_
      refine g_bipush (v := 6) hX dM_isSo_19 (by decide) ?_
      refine g_icmp_ge hX 47 dM_isSo_21 (by decide) (fun c_21 => ?_) (fun c_21 => absurd (nI_le (a := 6) (b := 6) (Nat.le_refl _) (by omega)) c_21)
      refine g_aload_n hX dM_isSo_47 0 rfl ?_
      refine g_aload_n hX dM_isSo_48 0 rfl ?_
      refine g_get hX 0 rfl rfl 25 (by decide) uu_M q_609 rfl rfl dM_isSo_49 ?_
      refine g_callV hX (con_M_again_18 l Z h q (liveN nP (sr S 18 (pk S)) n)) mvM_again q_769 rfl (by decide) 0 rfl rfl rfl (Nat.le_of_ble_eq_true rfl) dM_isSo_52 [0, 1, 2, 3, 4, 5, 6, 7, 8, 9, 10, 11, 12, 13, 14, 15, 16, 17, 18, 19, 20, 21] rfl (subM_all Z h q (liveN nP (sr S 18 (pk S)) n)) (g_fn (ws1 := wM Z h q (up (liveN nP (sr S 18 (pk S)) n) ((liveN nP (sr S 18 (pk S)) n) 18))) (st1 := []) (putM_all Z h q (liveN nP (sr S 18 (pk S)) n) (up (liveN nP (sr S 18 (pk S)) n) ((liveN nP (sr S 18 (pk S)) n) 18))) rfl ?_)
      refine g_same (ws1 := wM Z h q (sr (sr S 18 (pk S)) 14 ((liveN nP (sr S 18 (pk S)) n) 14))) (Mnd.back ((Mnd.start S).live nP n) Z h q) ?_
      refine g_eq (ws1 := wM Z h q (sr S 18 (pk S))) (congrArg (wM Z h q) (iso_end (by rw [liveN_row nP _ (by decide) (by decide) (by decide)]; exact sr_ne _ _ (by decide)))) rfl rfl ?_
      refine g_iload_n hX dM_isSo_55 2 rfl ?_
      exact r_zret hX hQ (nar01 (isoF_01 _ _ _ _)) dM_isSo_56 keysM (⟨rfl, rfl⟩)
    · skip
      refine g_iload_n hX dM_isSo_18 3 rfl ?_
      refine g_bipush (v := 6) hX dM_isSo_19 (by decide) ?_
      refine g_icmp_ge hX 47 dM_isSo_21 (by decide) (fun c_21 => absurd c_21 (nI_ge (a := i0) (b := 6) hi_i0 (by omega))) (fun c_21 => ?_)
      refine g_aload_n hX dM_isSo_24 0 rfl ?_
      refine g_get hX 0 rfl rfl 0 (by decide) uu_M q_584 rfl rfl dM_isSo_25 ?_
      refine g_iload_n hX dM_isSo_28 3 rfl ?_
      refine g_ald (v := (liveN nP S n 0 i0)) hX 1 rfl i0 (by omega) (by decide) (rfl) (congrFun (((Eq9.mem 0 S).live n).1 0 (Or.inl rfl)) i0) dM_isSo_29 ?_
      refine g_aload_n hX dM_isSo_30 0 rfl ?_
      refine g_get hX 0 rfl rfl 21 (by decide) uu_M q_605 rfl rfl dM_isSo_31 ?_
      refine g_iload_n hX dM_isSo_34 3 rfl ?_
      refine g_ald (v := (S 15 i0)) hX 15 rfl i0 (by omega) (by decide) (rfl) (congrFun (((Mnd.start S).live nP n).1 15 (by decide) (by decide) (by decide) (by decide) (by decide) (by decide)) i0) dM_isSo_35 ?_
      refine g_icmp_eq hX 41 dM_isSo_36 (by decide) (fun c_36 => ?_) (fun c_36 => ?_)
      · refine g_iinc (v := (nI (i0 + 1))) (lv1 := [(0, .ref h), (1, .int (nI n)), (2, .int (isoF S nP n i0)), (3, .int (nI (i0 + 1)))]) hX dM_isSo_41 3 rfl (inc_nat _) (by decide) [1, 2, 3, 0] rfl ?_
        refine g_goto hX 18 dM_isSo_44 (by decide) ?_
        have e_2 : (isoF S nP n i0) = (isoF S nP n (i0 + 1)) := by simp [isoF, c_21, c_36]
        exact g_eq (rfl) (by rw [e_2]) rfl ih_i0
      · refine g_iconst (v := 0) hX dM_isSo_39 (by decide) ?_
        refine g_istore_n (lv1 := [(0, .ref h), (1, .int (nI n)), (2, .int 0), (3, .int (nI i0))]) hX dM_isSo_40 (by decide) [1, 2, 0, 3] rfl ?_
        refine g_iinc (v := (nI (i0 + 1))) (lv1 := [(0, .ref h), (1, .int (nI n)), (2, .int 0), (3, .int (nI (i0 + 1)))]) hX dM_isSo_41 3 rfl (inc_nat _) (by decide) [1, 2, 3, 0] rfl ?_
        refine g_goto hX 18 dM_isSo_44 (by decide) ?_
        have e_2 : 0 = (isoF S nP n (i0 + 1)) := by simp [isoF, c_21, c_36]
        exact g_eq (rfl) (by rw [e_2]) rfl ih_i0
  exact hL_18 0 (Nat.zero_le _)
set_option maxHeartbeats 4000000 in
set_option maxRecDepth 20000 in
theorem con_M_gauges (l : Launch) (Z : ZZ) (h : Nat) (q : Nat → Nat) (S : St) (x w : Int32) (nP : Nat) (hP : S 12 1 = nI nP) (hP5 : nP ≤ 5) (nL : Nat) (hV : Vd S nP) (nR : Nat) (hR : S 12 6 = nI nR) (hR12 : nR ≤ 12) : Con l Z yM_gauges cM_gauges 9 (some .int) 5 [.ref h, .int x, .int w] (wM Z h q S) (MIq Z h q nL (mf_gauges S nP nR x w)) := by
  refine Con.of (by decide) (Nat.le_of_ble_eq_true rfl) (fun X hX hQ => ?_)
  show G X Z (wM Z h q S) 0 [(0, .ref h), (1, .int x), (2, .int w)] []
  refine g_iload_n hX dM_gauges_0 1 rfl ?_
  refine g_if_ge hX 11 dM_gauges_1 (by decide) (fun c_1 => ?_) (fun c_1 => ?_)
  · refine g_iload_n hX dM_gauges_11 1 rfl ?_
    refine g_bipush (v := 99) hX dM_gauges_12 (by decide) ?_
    refine g_icmp_le hX 24 dM_gauges_14 (by decide) (fun c_14 => ?_) (fun c_14 => ?_)
    · obtain ⟨n1, hn10, hn19, rfl⟩ := mins_of2 (a := 0) (b := 99) (na := 0) (nb := 99) rfl rfl (by decide) (by decide) c_1 c_14
      refine g_iload_n hX dM_gauges_24 2 rfl ?_
      refine g_iconst (v := 0) hX dM_gauges_25 (by decide) ?_
      refine g_iconst (v := 2) hX dM_gauges_26 (by decide) ?_
      refine g_callS hX (con_M_within l Z w 0 2) msM_within q_762 rfl (by decide) rfl (Nat.le_of_ble_eq_true rfl) dM_gauges_27 [] rfl (rfl) (g_fn (ws1 := wM Z h q S) (st1 := [.int (wthS w 0 2)]) (rfl) rfl ?_)
      refine g_if_ne hX 40 dM_gauges_30 (by decide) (fun c_30 => ?_) (fun c_30 => ?_)
      · refine g_aload_n hX dM_gauges_40 0 rfl ?_
        refine g_get hX 0 rfl rfl 20 (by decide) uu_M q_604 rfl rfl dM_gauges_41 ?_
        refine g_top (y := (nI nR)) (hR) ?_
        refine g_bipush (v := 6) hX dM_gauges_44 (by decide) ?_
        refine g_icmp_eq hX 56 dM_gauges_46 (by decide) (fun c_46 => ?_) (fun c_46 => ?_)
        · refine g_iload_n hX dM_gauges_56 2 rfl ?_
          refine g_iconst (v := 2) hX dM_gauges_57 (by decide) ?_
          refine g_icmp_ne hX 75 dM_gauges_58 (by decide) (fun c_58 => ?_) (fun c_58 => ?_)
          · refine g_iconst (v := 0) hX dM_gauges_75 (by decide) ?_
            refine g_istore_n (lv1 := [(0, .ref h), (1, .int (nI n1)), (2, .int w), (3, .int 0)]) hX dM_gauges_76 (by decide) [1, 2, 3, 0] rfl ?_
            refine g_bipush (v := (-9)) hX dM_gauges_77 (by decide) ?_
            refine g_istore (lv1 := [(0, .ref h), (1, .int (nI n1)), (2, .int w), (3, .int 0), (4, .int (-9))]) hX dM_gauges_79 (by decide) [1, 2, 3, 4, 0] rfl ?_
            refine g_iconst (v := 0) hX dM_gauges_81 (by decide) ?_
            refine g_istore (lv1 := [(0, .ref h), (1, .int (nI n1)), (2, .int w), (3, .int 0), (4, .int (-9)), (5, .int 0)]) hX dM_gauges_82 (by decide) [1, 2, 3, 4, 5, 0] rfl ?_
            have hL_84 : ∀ j1, j1 ≤ 6 → ∀ (k0 : Int32) (f0 : Int32) (V0 : St), O18 S V0 ∧ k0 = gmO S nP n1 j1 ∧ f0 = gfO S nP n1 j1 → G X Z (wM Z h q V0) 84 [(0, .ref h), (1, .int (nI n1)), (2, .int w), (3, .int k0), (4, .int f0), (5, .int (nI j1))] [] := by
              refine loopUp _ 6 ?_ (fun j1 hi_j1 ih_j1 => ?_)
              · intro k0 f0 V0 hq_j1
                refine g_iload hX dM_gauges_84 5 rfl ?_
                refine g_bipush (v := 6) hX dM_gauges_86 (by decide) ?_
                refine g_icmp_ge hX 185 dM_gauges_88 (by decide) (fun c_88 => ?_) (fun c_88 => absurd (nI_le (a := 6) (b := 6) (Nat.le_refl _) (by omega)) c_88)
                refine g_iload_n hX dM_gauges_185 2 rfl ?_
                refine g_if_ne hX 193 dM_gauges_186 (by decide) (fun c_186 => ?_) (fun c_186 => ?_)
                · refine g_iload hX dM_gauges_193 4 rfl ?_
                  exact r_iret hX hQ dM_gauges_195 keysM (by rw [show mf_gauges S nP nR (nI n1) w = (f0, S) from by rw [hq_j1.2.2]; simp [mf_gauges, c_1, c_14, c_30, c_46, c_58, c_186, nI_clamp (show n1 < 2 ^ 31 by omega), show wthS 0 0 2 = 1 from by decide, show wthS 2 0 2 = 1 from by decide]]; exact MIq_mk hq_j1.1.scr)
                · refine g_iload_n hX dM_gauges_189 3 rfl ?_
                  refine g_goto hX 195 dM_gauges_190 (by decide) ?_
                  exact r_iret hX hQ dM_gauges_195 keysM (by rw [show mf_gauges S nP nR (nI n1) w = (k0, S) from by rw [hq_j1.2.1]; simp [mf_gauges, c_1, c_14, c_30, c_46, c_58, c_186, nI_clamp (show n1 < 2 ^ 31 by omega), show wthS 0 0 2 = 1 from by decide, show wthS 2 0 2 = 1 from by decide]]; exact MIq_mk hq_j1.1.scr)
              · intro k0 f0 V0 hq_j1
                refine g_iload hX dM_gauges_84 5 rfl ?_
                refine g_bipush (v := 6) hX dM_gauges_86 (by decide) ?_
                refine g_icmp_ge hX 185 dM_gauges_88 (by decide) (fun c_88 => absurd c_88 (nI_ge (a := j1) (b := 6) hi_j1 (by omega))) (fun c_88 => ?_)
                refine g_aload_n hX dM_gauges_91 0 rfl ?_
                refine g_get hX 0 rfl rfl 1 (by decide) uu_M q_585 rfl rfl dM_gauges_92 ?_
                refine g_iload hX dM_gauges_95 5 rfl ?_
                refine g_ald (v := (S 1 j1)) hX 2 rfl j1 (by omega) (by decide) (rfl) (congrFun (hq_j1.1 1 (by decide)) j1) dM_gauges_97 ?_
                refine g_istore (lv1 := [(0, .ref h), (1, .int (nI n1)), (2, .int w), (3, .int k0), (4, .int f0), (5, .int (nI j1)), (6, .int (S 1 j1))]) hX dM_gauges_98 (by decide) [1, 2, 3, 4, 5, 6, 0] rfl ?_
                refine g_iconst (v := 0) hX dM_gauges_100 (by decide) ?_
                refine g_istore (lv1 := [(0, .ref h), (1, .int (nI n1)), (2, .int w), (3, .int k0), (4, .int f0), (5, .int (nI j1)), (6, .int (S 1 j1)), (7, .int 0)]) hX dM_gauges_101 (by decide) [1, 2, 3, 4, 5, 6, 7, 0] rfl ?_
                have hL_103 : ∀ v1, v1 ≤ 10 → ∀ (k1 : Int32) (f1 : Int32) (V1 : St), O18 S V1 ∧ k1 = gmI S nP n1 j1 (gmO S nP n1 j1) v1 ∧ f1 = gfI S nP n1 j1 (gfO S nP n1 j1) v1 → G X Z (wM Z h q V1) 103 [(0, .ref h), (1, .int (nI n1)), (2, .int w), (3, .int k1), (4, .int f1), (5, .int (nI j1)), (6, .int (S 1 j1)), (7, .int (nI v1))] [] := by
                  refine loopUp _ 10 ?_ (fun v1 hi_v1 ih_v1 => ?_)
                  · intro k1 f1 V1 hq_v1
                    refine g_iload hX dM_gauges_103 7 rfl ?_
                    refine g_bipush (v := 10) hX dM_gauges_105 (by decide) ?_
                    refine g_icmp_ge hX 179 dM_gauges_107 (by decide) (fun c_107 => ?_) (fun c_107 => absurd (nI_le (a := 10) (b := 10) (Nat.le_refl _) (by omega)) c_107)
                    refine g_iinc (v := (nI (j1 + 1))) (lv1 := [(0, .ref h), (1, .int (nI n1)), (2, .int w), (3, .int k1), (4, .int f1), (5, .int (nI (j1 + 1))), (6, .int (S 1 j1)), (7, .int (nI 10))]) hX dM_gauges_179 5 rfl (inc_nat _) (by decide) [1, 2, 3, 4, 5, 0, 6, 7] rfl ?_
                    refine g_goto hX 84 dM_gauges_182 (by decide) ?_
                    refine g_lv (lv1 := [(0, .ref h), (1, .int (nI n1)), (2, .int w), (3, .int k1), (4, .int f1), (5, .int (nI (j1 + 1)))]) [0, 1, 2, 3, 4, 5] rfl ?_
                    exact ih_j1 k1 f1 V1 (⟨hq_v1.1, hq_v1.2⟩)
                  · intro k1 f1 V1 hq_v1
                    refine g_iload hX dM_gauges_103 7 rfl ?_
                    refine g_bipush (v := 10) hX dM_gauges_105 (by decide) ?_
                    refine g_icmp_ge hX 179 dM_gauges_107 (by decide) (fun c_107 => absurd c_107 (nI_ge (a := v1) (b := 10) hi_v1 (by omega))) (fun c_107 => ?_)
                    refine g_iload hX dM_gauges_110 7 rfl ?_
                    refine g_iload hX dM_gauges_112 6 rfl ?_
                    refine g_icmp_ne hX 120 dM_gauges_114 (by decide) (fun c_114 => ?_) (fun c_114 => ?_)
                    · refine g_aload_n hX dM_gauges_120 0 rfl ?_
                      refine g_get hX 0 rfl rfl 1 (by decide) uu_M q_585 rfl rfl dM_gauges_121 ?_
                      refine g_iload hX dM_gauges_124 5 rfl ?_
                      refine g_iload hX dM_gauges_126 7 rfl ?_
                      refine g_ast (ws1 := wM Z h q (sw V1 1 j1 (nI v1))) hX 2 rfl j1 (by omega) (by decide) (rfl) dM_gauges_128 (setM_S_1 Z h q V1 j1 (nI v1)) ?_
                      refine g_aload_n hX dM_gauges_129 0 rfl ?_
                      refine g_iload_n hX dM_gauges_130 1 rfl ?_
                      refine g_callV hX (con_M_isSo l Z h q (sw V1 1 j1 (nI v1)) n1 (by omega) nP (by rw [sw_ne _ _ _ (by decide), hq_v1.1 12 (by decide)]; exact hP) hP5 (hV.cong (by rw [sw_ne _ _ _ (by decide)]; exact hq_v1.1 7 (by decide)) (by rw [sw_ne _ _ _ (by decide)]; exact hq_v1.1 8 (by decide)) (by rw [sw_ne _ _ _ (by decide)]; exact hq_v1.1 10 (by decide)))) mvM_isSo q_900 rfl (by decide) 0 rfl rfl rfl (Nat.le_of_ble_eq_true rfl) dM_gauges_131 [0, 1, 2, 3, 4, 5, 6, 7, 8, 9, 10, 11, 12, 13, 14, 15, 16, 17, 18, 19, 20, 21] rfl (subM_all Z h q (sw V1 1 j1 (nI v1))) (g_fn (ws1 := wM Z h q (sr (sw V1 1 j1 (nI v1)) 18 (pk (sw V1 1 j1 (nI v1))))) (st1 := [.int (isoF (sw V1 1 j1 (nI v1)) nP n1 6)]) (putM_all Z h q (sw V1 1 j1 (nI v1)) (sr (sw V1 1 j1 (nI v1)) 18 (pk (sw V1 1 j1 (nI v1))))) rfl ?_)
                      refine g_top (y := (isoF (sw S 1 j1 (nI v1)) nP n1 6)) (iso_cong hq_v1.1 6) ?_
                      refine g_istore (lv1 := [(0, .ref h), (1, .int (nI n1)), (2, .int w), (3, .int k1), (4, .int f1), (5, .int (nI j1)), (6, .int (S 1 j1)), (7, .int (nI v1)), (8, .int (isoF (sw S 1 j1 (nI v1)) nP n1 6))]) hX dM_gauges_134 (by decide) [1, 2, 3, 4, 5, 6, 7, 8, 0] rfl ?_
                      refine g_aload_n hX dM_gauges_136 0 rfl ?_
                      refine g_get hX 0 rfl rfl 1 (by decide) uu_M q_585 rfl rfl dM_gauges_137 ?_
                      refine g_iload hX dM_gauges_140 5 rfl ?_
                      refine g_iload hX dM_gauges_142 6 rfl ?_
                      refine g_ast (ws1 := wM Z h q (sw (sr (sw V1 1 j1 (nI v1)) 18 (pk (sw V1 1 j1 (nI v1)))) 1 j1 (S 1 j1))) hX 2 rfl j1 (by omega) (by decide) (rfl) dM_gauges_144 (setM_S_1 Z h q (sr (sw V1 1 j1 (nI v1)) 18 (pk (sw V1 1 j1 (nI v1)))) j1 (S 1 j1)) ?_
                      refine g_iload hX dM_gauges_145 8 rfl ?_
                      refine g_if_ne hX 153 dM_gauges_147 (by decide) (fun c_147 => ?_) (fun c_147 => ?_)
                      · refine g_iinc (v := (k1 + 1)) (lv1 := [(0, .ref h), (1, .int (nI n1)), (2, .int w), (3, .int (k1 + 1)), (4, .int f1), (5, .int (nI j1)), (6, .int (S 1 j1)), (7, .int (nI v1)), (8, .int (isoF (sw S 1 j1 (nI v1)) nP n1 6))]) hX dM_gauges_153 3 rfl (inc_raw _) (by decide) [1, 2, 3, 0, 4, 5, 6, 7, 8] rfl ?_
                        refine g_iload hX dM_gauges_156 4 rfl ?_
                        refine g_bipush (v := (-9)) hX dM_gauges_158 (by decide) ?_
                        refine g_icmp_ne hX 173 dM_gauges_160 (by decide) (fun c_160 => ?_) (fun c_160 => ?_)
                        · refine g_iinc (v := (nI (v1 + 1))) (lv1 := [(0, .ref h), (1, .int (nI n1)), (2, .int w), (3, .int (k1 + 1)), (4, .int f1), (5, .int (nI j1)), (6, .int (S 1 j1)), (7, .int (nI (v1 + 1))), (8, .int (isoF (sw S 1 j1 (nI v1)) nP n1 6))]) hX dM_gauges_173 7 rfl (inc_nat _) (by decide) [1, 2, 3, 4, 5, 6, 7, 0, 8] rfl ?_
                          refine g_goto hX 103 dM_gauges_176 (by decide) ?_
                          refine g_lv (lv1 := [(0, .ref h), (1, .int (nI n1)), (2, .int w), (3, .int (k1 + 1)), (4, .int f1), (5, .int (nI j1)), (6, .int (S 1 j1)), (7, .int (nI (v1 + 1)))]) [0, 1, 2, 3, 4, 5, 6, 7] rfl ?_
                          exact ih_v1 (k1 + 1) f1 (sw (sr (sw V1 1 j1 (nI v1)) 18 (pk (sw V1 1 j1 (nI v1)))) 1 j1 (S 1 j1)) (⟨hq_v1.1.back, gz_old (fun z => c_147 ((gz_ne c_114).symm.trans z)) hq_v1.2 c_160⟩)
                        · refine g_bipush (v := 10) hX dM_gauges_163 (by decide) ?_
                          refine g_iload hX dM_gauges_165 5 rfl ?_
                          refine g_imul (z := (nI (10 * j1))) hX dM_gauges_167 (pk_mul 10 j1) ?_
                          refine g_iload hX dM_gauges_168 7 rfl ?_
                          refine g_iadd (z := (nI ((10 * j1) + v1))) hX dM_gauges_170 (nI_add (10 * j1) v1) ?_
                          refine g_istore (lv1 := [(0, .ref h), (1, .int (nI n1)), (2, .int w), (3, .int (k1 + 1)), (4, .int (nI ((10 * j1) + v1))), (5, .int (nI j1)), (6, .int (S 1 j1)), (7, .int (nI v1)), (8, .int (isoF (sw S 1 j1 (nI v1)) nP n1 6))]) hX dM_gauges_171 (by decide) [1, 2, 3, 4, 0, 5, 6, 7, 8] rfl ?_
                          refine g_iinc (v := (nI (v1 + 1))) (lv1 := [(0, .ref h), (1, .int (nI n1)), (2, .int w), (3, .int (k1 + 1)), (4, .int (nI ((10 * j1) + v1))), (5, .int (nI j1)), (6, .int (S 1 j1)), (7, .int (nI (v1 + 1))), (8, .int (isoF (sw S 1 j1 (nI v1)) nP n1 6))]) hX dM_gauges_173 7 rfl (inc_nat _) (by decide) [1, 2, 3, 4, 5, 6, 7, 0, 8] rfl ?_
                          refine g_goto hX 103 dM_gauges_176 (by decide) ?_
                          refine g_lv (lv1 := [(0, .ref h), (1, .int (nI n1)), (2, .int w), (3, .int (k1 + 1)), (4, .int (nI ((10 * j1) + v1))), (5, .int (nI j1)), (6, .int (S 1 j1)), (7, .int (nI (v1 + 1)))]) [0, 1, 2, 3, 4, 5, 6, 7] rfl ?_
                          exact ih_v1 (k1 + 1) (nI ((10 * j1) + v1)) (sw (sr (sw V1 1 j1 (nI v1)) 18 (pk (sw V1 1 j1 (nI v1)))) 1 j1 (S 1 j1)) (⟨hq_v1.1.back, gz_new (fun z => c_147 ((gz_ne c_114).symm.trans z)) hq_v1.2 c_160⟩)
                      · refine g_goto hX 173 dM_gauges_150 (by decide) ?_
                        refine g_iinc (v := (nI (v1 + 1))) (lv1 := [(0, .ref h), (1, .int (nI n1)), (2, .int w), (3, .int k1), (4, .int f1), (5, .int (nI j1)), (6, .int (S 1 j1)), (7, .int (nI (v1 + 1))), (8, .int (isoF (sw S 1 j1 (nI v1)) nP n1 6))]) hX dM_gauges_173 7 rfl (inc_nat _) (by decide) [1, 2, 3, 4, 5, 6, 7, 0, 8] rfl ?_
                        refine g_goto hX 103 dM_gauges_176 (by decide) ?_
                        refine g_lv (lv1 := [(0, .ref h), (1, .int (nI n1)), (2, .int w), (3, .int k1), (4, .int f1), (5, .int (nI j1)), (6, .int (S 1 j1)), (7, .int (nI (v1 + 1)))]) [0, 1, 2, 3, 4, 5, 6, 7] rfl ?_
                        exact ih_v1 k1 f1 (sw (sr (sw V1 1 j1 (nI v1)) 18 (pk (sw V1 1 j1 (nI v1)))) 1 j1 (S 1 j1)) (⟨hq_v1.1.back, gz_no ((gz_ne c_114).trans c_147) hq_v1.2⟩)
                    · refine g_goto hX 173 dM_gauges_117 (by decide) ?_
                      refine g_iinc (v := (nI (v1 + 1))) (lv1 := [(0, .ref h), (1, .int (nI n1)), (2, .int w), (3, .int k1), (4, .int f1), (5, .int (nI j1)), (6, .int (S 1 j1)), (7, .int (nI (v1 + 1)))]) hX dM_gauges_173 7 rfl (inc_nat _) (by decide) [1, 2, 3, 4, 5, 6, 7, 0] rfl ?_
                      refine g_goto hX 103 dM_gauges_176 (by decide) ?_
                      exact ih_v1 k1 f1 V1 (⟨hq_v1.1, gz_no (gz_eq c_114) hq_v1.2⟩)
                exact hL_103 0 (Nat.zero_le _) k0 f0 V0 (⟨hq_j1.1, hq_j1.2⟩)
            exact hL_84 0 (Nat.zero_le _) 0 (-9) S (⟨O18.rf, rfl, rfl⟩)
          · refine g_aload_n hX dM_gauges_61 0 rfl ?_
            refine g_iload_n hX dM_gauges_62 1 rfl ?_
            refine g_callV hX (con_M_isSo l Z h q S n1 (by omega) nP hP hP5 hV) mvM_isSo q_900 rfl (by decide) 0 rfl rfl rfl (Nat.le_of_ble_eq_true rfl) dM_gauges_63 [0, 1, 2, 3, 4, 5, 6, 7, 8, 9, 10, 11, 12, 13, 14, 15, 16, 17, 18, 19, 20, 21] rfl (subM_all Z h q S) (g_fn (ws1 := wM Z h q (sr S 18 (pk S))) (st1 := [.int (isoF S nP n1 6)]) (putM_all Z h q S (sr S 18 (pk S))) rfl ?_)
            refine g_if_eq hX 73 dM_gauges_66 (by decide) (fun c_66 => ?_) (fun c_66 => ?_)
            · refine g_iconst (v := 0) hX dM_gauges_73 (by decide) ?_
              exact r_iret hX hQ dM_gauges_74 keysM (by rw [show mf_gauges S nP nR (nI n1) w = (0, S) from by simp [mf_gauges, c_1, c_14, c_30, c_46, c_58, c_66, show wthS 0 0 2 = 1 from by decide, show wthS 2 0 2 = 1 from by decide, nI_clamp (show n1 < 2 ^ 31 by omega)]]; exact MIq_mk (Scr.rf.row (by omega) _))
            · refine g_iconst (v := 1) hX dM_gauges_69 (by decide) ?_
              refine g_goto hX 74 dM_gauges_70 (by decide) ?_
              exact r_iret hX hQ dM_gauges_74 keysM (by rw [show mf_gauges S nP nR (nI n1) w = (1, S) from by simp [mf_gauges, c_1, c_14, c_30, c_46, c_58, c_66, show wthS 0 0 2 = 1 from by decide, show wthS 2 0 2 = 1 from by decide, nI_clamp (show n1 < 2 ^ 31 by omega)]]; exact MIq_mk (Scr.rf.row (by omega) _))
        · refine g_aload_n hX dM_gauges_49 0 rfl ?_
          refine g_bipush (v := (-3)) hX dM_gauges_50 (by decide) ?_
          refine g_callV hX (con_M_no l Z h q S (-3) 3 (by decide) (by decide)) mvM_no q_676 rfl (by decide) 0 rfl rfl rfl (Nat.le_of_ble_eq_true rfl) dM_gauges_52 [0, 1, 2, 3, 4, 5, 6, 7, 8, 9, 10, 11, 12, 13, 14, 15, 16, 17, 18, 19, 20, 21] rfl (subM_all Z h q S) (g_fn (ws1 := wM Z h q (nob S 3)) (st1 := [.int (-3)]) (putM_all Z h q S (nob S 3)) rfl ?_)
          exact r_iret hX hQ dM_gauges_55 keysM (by rw [show mf_gauges S nP nR (nI n1) w = ((-3), nob S 3) from by simp [mf_gauges, c_1, c_14, c_30, c_46, nI_clamp (show n1 < 2 ^ 31 by omega)]]; exact MIq_mk (Scr.rf))
      · refine g_aload_n hX dM_gauges_33 0 rfl ?_
        refine g_bipush (v := (-2)) hX dM_gauges_34 (by decide) ?_
        refine g_callV hX (con_M_no l Z h q S (-2) 2 (by decide) (by decide)) mvM_no q_676 rfl (by decide) 0 rfl rfl rfl (Nat.le_of_ble_eq_true rfl) dM_gauges_36 [0, 1, 2, 3, 4, 5, 6, 7, 8, 9, 10, 11, 12, 13, 14, 15, 16, 17, 18, 19, 20, 21] rfl (subM_all Z h q S) (g_fn (ws1 := wM Z h q (nob S 2)) (st1 := [.int (-2)]) (putM_all Z h q S (nob S 2)) rfl ?_)
        exact r_iret hX hQ dM_gauges_39 keysM (by rw [show mf_gauges S nP nR (nI n1) w = ((-2), nob S 2) from by simp [mf_gauges, c_1, c_14, c_30, nI_clamp (show n1 < 2 ^ 31 by omega)]]; exact MIq_mk (Scr.rf))
    · refine g_aload_n hX dM_gauges_17 0 rfl ?_
      refine g_bipush (v := (-6)) hX dM_gauges_18 (by decide) ?_
      refine g_callV hX (con_M_no l Z h q S (-6) 6 (by decide) (by decide)) mvM_no q_676 rfl (by decide) 0 rfl rfl rfl (Nat.le_of_ble_eq_true rfl) dM_gauges_20 [0, 1, 2, 3, 4, 5, 6, 7, 8, 9, 10, 11, 12, 13, 14, 15, 16, 17, 18, 19, 20, 21] rfl (subM_all Z h q S) (g_fn (ws1 := wM Z h q (nob S 6)) (st1 := [.int (-6)]) (putM_all Z h q S (nob S 6)) rfl ?_)
      exact r_iret hX hQ dM_gauges_23 keysM (by rw [show mf_gauges S nP nR x w = ((-6), nob S 6) from by simp [mf_gauges, c_1, c_14]]; exact MIq_mk (Scr.rf))
  · refine g_aload_n hX dM_gauges_4 0 rfl ?_
    refine g_bipush (v := (-4)) hX dM_gauges_5 (by decide) ?_
    refine g_callV hX (con_M_no l Z h q S (-4) 4 (by decide) (by decide)) mvM_no q_676 rfl (by decide) 0 rfl rfl rfl (Nat.le_of_ble_eq_true rfl) dM_gauges_7 [0, 1, 2, 3, 4, 5, 6, 7, 8, 9, 10, 11, 12, 13, 14, 15, 16, 17, 18, 19, 20, 21] rfl (subM_all Z h q S) (g_fn (ws1 := wM Z h q (nob S 4)) (st1 := [.int (-4)]) (putM_all Z h q S (nob S 4)) rfl ?_)
    exact r_iret hX hQ dM_gauges_10 keysM (by rw [show mf_gauges S nP nR x w = ((-4), nob S 4) from by simp [mf_gauges, c_1]]; exact MIq_mk (Scr.rf))
