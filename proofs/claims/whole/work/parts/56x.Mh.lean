/-! the Model: a statement -/
set_option maxHeartbeats 4000000 in
set_option maxRecDepth 20000 in
theorem con_M_statement (l : Launch) (Z : ZZ) (h : Nat) (q : Nat → Nat) (S : St) (f : Nat → Int32) (k : Nat) (tl : Int32) (nT : Nat) (hN : S 12 4 = nI nT) (hN96 : nT ≤ 96) (htl : ¬ tl = 0 → 0 ≤ bs (TM S) nT k) (hk : k ≤ nT) (hB : ∀ j, j < nT → ∃ b, b < 256 ∧ S 13 j = nI b) (nP nL : Nat) (hP : S 12 1 = nI nP) (hP5 : nP ≤ 5) (hL : S 12 0 = nI nL) (hL7 : nL ≤ 7) : Con l Z yM_statement cM_statement 3 (some .int) 4 [.ref h, .int tl] (wM Z h q (rdS S f k)) (stmP Z h q S nT k tl) := by
  refine Con.of (by decide) (Nat.le_of_ble_eq_true rfl) (fun X hX hQ => ?_)
  show G X Z (wM Z h q (rdS S f k)) 0 [(0, .ref h), (1, .int tl)] []
  refine g_aload_n hX dM_statement_0 0 rfl ?_
  refine g_bipush (v := 114) hX dM_statement_1 (by decide) ?_
  refine g_callV hX (con_M_is l Z h q S f k 114 (by decide) nT hN hN96 ⟨by omega, hN96⟩) mvM_is q_688 rfl (by decide) 0 rfl rfl rfl (Nat.le_of_ble_eq_true rfl) dM_statement_3 [0, 1, 2, 3, 4, 5, 6, 7, 8, 9, 10, 11, 12, 13, 14, 15, 16, 17, 18, 19, 20, 21] rfl (subM_all Z h q (rdS S f k)) (fun v w hp => ?_)
  rcases hp with ⟨rfl, ⟨hs3, hl3⟩, rfl⟩ | ⟨rfl, hs3, rfl⟩
  · skip
    refine g_eq (ws1 := wM Z h q (rdS S f (k + 1))) (st1 := [.int 1]) (putM_all Z h q (rdS S f k) _) rfl rfl ?_
    refine g_if_eq hX 75 dM_statement_6 (by decide) (fun c_6 => absurd c_6 (by decide)) (fun c_6 => ?_)
    refine g_aload_n hX dM_statement_9 0 rfl ?_
    refine g_iconst (v := 0) hX dM_statement_10 (by decide) ?_
    refine g_iconst (v := 1) hX dM_statement_11 (by decide) ?_
    refine g_callV hX (con_M_number l Z h q S f (k + 1) 0 1 (by decide) (by decide) (by decide) nT hN hN96 (by omega)) mvM_number q_692 rfl (by decide) 0 rfl rfl rfl (Nat.le_of_ble_eq_true rfl) dM_statement_12 [0, 1, 2, 3, 4, 5, 6, 7, 8, 9, 10, 11, 12, 13, 14, 15, 16, 17, 18, 19, 20, 21] rfl (subM_all Z h q (rdS S f (k + 1))) (fun v w hp => ?_)
    rcases hp with ⟨rfl, n1, x1, hn1, rfl⟩ | ⟨rfl, hz1, rfl⟩
    · skip
      obtain ⟨rfl, hd1, ed1, hx1, hl1⟩ := nd1 hn1
      refine g_eq (ws1 := wM Z h q (rdS S (upd f 0 (nI x1)) (k + 2))) (st1 := [.int 1]) (putM_all Z h q (rdS S f (k + 1)) _) rfl rfl ?_
      refine g_if_eq hX 36 dM_statement_15 (by decide) (fun c_15 => absurd c_15 (by decide)) (fun c_15 => ?_)
      refine g_aload_n hX dM_statement_18 0 rfl ?_
      refine g_bipush (v := 44) hX dM_statement_19 (by decide) ?_
      refine g_callV hX (con_M_is l Z h q S (upd f 0 (nI x1)) (k + 2) 44 (by decide) nT hN hN96 ⟨by omega, hN96⟩) mvM_is q_688 rfl (by decide) 0 rfl rfl rfl (Nat.le_of_ble_eq_true rfl) dM_statement_21 [0, 1, 2, 3, 4, 5, 6, 7, 8, 9, 10, 11, 12, 13, 14, 15, 16, 17, 18, 19, 20, 21] rfl (subM_all Z h q (rdS S (upd f 0 (nI x1)) (k + 2))) (fun v w hp => ?_)
      rcases hp with ⟨rfl, ⟨hs21, hl21⟩, rfl⟩ | ⟨rfl, hs21, rfl⟩
      · skip
        refine g_eq (ws1 := wM Z h q (rdS S (upd f 0 (nI x1)) (k + 3))) (st1 := [.int 1]) (putM_all Z h q (rdS S (upd f 0 (nI x1)) (k + 2)) _) rfl rfl ?_
        refine g_if_eq hX 36 dM_statement_24 (by decide) (fun c_24 => absurd c_24 (by decide)) (fun c_24 => ?_)
        refine g_aload_n hX dM_statement_27 0 rfl ?_
        refine g_iconst (v := 1) hX dM_statement_28 (by decide) ?_
        refine g_iconst (v := 3) hX dM_statement_29 (by decide) ?_
        refine g_callV hX (con_M_number l Z h q S (upd f 0 (nI x1)) (k + 3) 1 3 (by decide) (by decide) (by decide) nT hN hN96 (by omega)) mvM_number q_692 rfl (by decide) 0 rfl rfl rfl (Nat.le_of_ble_eq_true rfl) dM_statement_30 [0, 1, 2, 3, 4, 5, 6, 7, 8, 9, 10, 11, 12, 13, 14, 15, 16, 17, 18, 19, 20, 21] rfl (subM_all Z h q (rdS S (upd f 0 (nI x1)) (k + 3))) (fun v w hp => ?_)
        rcases hp with ⟨rfl, n2, x2, hn2, rfl⟩ | ⟨rfl, hz2, rfl⟩
        · skip
          obtain ⟨em2, hx2, hb2, hl2, hg2⟩ := nd3 hn2
          refine g_eq (ws1 := wM Z h q (rdS S (upd (upd f 0 (nI x1)) 1 (nI x2)) (k + 3 + n2))) (st1 := [.int 1]) (putM_all Z h q (rdS S (upd f 0 (nI x1)) (k + 3)) _) rfl rfl ?_
          refine g_if_ne hX 38 dM_statement_33 (by decide) (fun c_33 => ?_) (fun c_33 => absurd c_33 (by decide))
          refine g_iload_n hX dM_statement_38 1 rfl ?_
          refine g_if_ne hX 44 dM_statement_39 (by decide) (fun c_39 => ?_) (fun c_39 => ?_)
          · refine g_aload_n hX dM_statement_44 0 rfl ?_
            refine g_get hX 0 rfl rfl 19 (by decide) uu_M q_603 rfl rfl dM_statement_45 ?_
            refine g_iconst (v := 0) hX dM_statement_48 (by decide) ?_
            refine g_ald (v := (nI x1)) hX 14 rfl 0 (by omega) (by decide) (rfl) (by first | (rw [rdS_14]; rfl) | (rw [sw_ne _ _ _ (by decide), rdS_14]; rfl) | (rw [sw_ne _ _ _ (by decide), sw_ne _ _ _ (by decide), rdS_14]; rfl) | (rw [sw_ne _ _ _ (by decide), sw_ne _ _ _ (by decide), sw_ne _ _ _ (by decide), sw_ne _ _ _ (by decide), rdS_14]; rfl)) dM_statement_49 ?_
            refine g_iconst (v := 5) hX dM_statement_50 (by decide) ?_
            refine g_icmp_le hX 56 dM_statement_51 (by decide) (fun c_51 => ?_) (fun c_51 => ?_)
            · refine g_aload_n hX dM_statement_56 0 rfl ?_
              refine g_get hX 0 rfl rfl 0 (by decide) uu_M q_584 rfl rfl dM_statement_57 ?_
              refine g_aload_n hX dM_statement_60 0 rfl ?_
              refine g_get hX 0 rfl rfl 19 (by decide) uu_M q_603 rfl rfl dM_statement_61 ?_
              refine g_iconst (v := 0) hX dM_statement_64 (by decide) ?_
              refine g_ald (v := (nI x1)) hX 14 rfl 0 (by omega) (by decide) (rfl) (by first | (rw [rdS_14]; rfl) | (rw [sw_ne _ _ _ (by decide), rdS_14]; rfl) | (rw [sw_ne _ _ _ (by decide), sw_ne _ _ _ (by decide), rdS_14]; rfl) | (rw [sw_ne _ _ _ (by decide), sw_ne _ _ _ (by decide), sw_ne _ _ _ (by decide), sw_ne _ _ _ (by decide), rdS_14]; rfl)) dM_statement_65 ?_
              refine g_aload_n hX dM_statement_66 0 rfl ?_
              refine g_get hX 0 rfl rfl 19 (by decide) uu_M q_603 rfl rfl dM_statement_67 ?_
              refine g_iconst (v := 1) hX dM_statement_70 (by decide) ?_
              refine g_ald (v := (nI x2)) hX 14 rfl 1 (by omega) (by decide) (rfl) (by first | (rw [rdS_14]; rfl) | (rw [sw_ne _ _ _ (by decide), rdS_14]; rfl) | (rw [sw_ne _ _ _ (by decide), sw_ne _ _ _ (by decide), rdS_14]; rfl) | (rw [sw_ne _ _ _ (by decide), sw_ne _ _ _ (by decide), sw_ne _ _ _ (by decide), sw_ne _ _ _ (by decide), rdS_14]; rfl)) dM_statement_71 ?_
              refine g_ast (ws1 := wM Z h q (sw (rdS S (upd (upd f 0 (nI x1)) 1 (nI x2)) (k + 3 + n2)) 0 x1 (nI x2))) hX 1 rfl x1 (by have q9 := c_51; rw [show (5 : Int32) = nI 5 from rfl, le_n (by decide) (by omega)] at q9; omega) (by decide) (rfl) dM_statement_72 (setM_S_0 Z h q (rdS S (upd (upd f 0 (nI x1)) 1 (nI x2)) (k + 3 + n2)) x1 (nI x2)) ?_
              refine g_eq (ws1 := wM Z h q (rdS (sw S 0 x1 (nI x2)) (upd (upd f 0 (nI x1)) 1 (nI x2)) (k + 3 + n2))) (congrArg (wM Z h q) (rdS_other _ _ _ _ (by decide) (by omega))) rfl rfl ?_
              refine g_iconst (v := 1) hX dM_statement_73 (by decide) ?_
              exact r_iret hX hQ dM_statement_74 keysM (by have q51 := c_51; rw [show (5 : Int32) = nI 5 from rfl, le_n (by decide) (by omega)] at q51; have e9 := st_114 (S := S) hs3 ed1 em2 hx1 hx2; rw [if_pos (by omega), if_pos (by omega)] at e9; exact stm_tell (by omega) (by omega) c_39 ((bs_114 hs3).trans ((bs_d (sh := 0) (r := 5) (i := 0) (by decide) hd1).trans ((bs_c (sh := 0) (r := 4) (i := 1) (by decide) hs21).trans (hb2)))) e9.1 e9.2)
            · refine g_iconst (v := 0) hX dM_statement_54 (by decide) ?_
              exact r_iret hX hQ dM_statement_55 keysM (by have q51 := c_51; rw [show (5 : Int32) = nI 5 from rfl, le_n (by decide) (by omega)] at q51; have e9 := st_114 (S := S) hs3 ed1 em2 hx1 hx2; rw [if_neg (by omega), if_neg (by omega)] at e9; exact stm_tell (by omega) (by omega) c_39 ((bs_114 hs3).trans ((bs_d (sh := 0) (r := 5) (i := 0) (by decide) hd1).trans ((bs_c (sh := 0) (r := 4) (i := 1) (by decide) hs21).trans (hb2)))) e9.1 e9.2)
          · refine g_iconst (v := 1) hX dM_statement_42 (by decide) ?_
            exact r_iret hX hQ dM_statement_43 keysM (stm_one (by omega) (by omega) c_39 ((bs_114 hs3).trans ((bs_d (sh := 0) (r := 5) (i := 0) (by decide) hd1).trans ((bs_c (sh := 0) (r := 4) (i := 1) (by decide) hs21).trans (hb2)))))
        · skip
          refine g_eq (ws1 := wM Z h q (rdS S (upd f 0 (nI x1)) (k + 3))) (st1 := [.int 0]) (putM_all Z h q (rdS S (upd f 0 (nI x1)) (k + 3)) _) rfl rfl ?_
          refine g_if_ne hX 38 dM_statement_33 (by decide) (fun c_33 => absurd (rfl) c_33) (fun c_33 => ?_)
          refine g_iconst (v := (-1)) hX dM_statement_36 (by decide) ?_
          exact r_iret hX hQ dM_statement_37 keysM (stm_no (by omega) ((bs_114 hs3).trans ((bs_d (sh := 0) (r := 5) (i := 0) (by decide) hd1).trans ((bs_c (sh := 0) (r := 4) (i := 1) (by decide) hs21).trans (bs_dn (sh := 0) (r := 3) (i := 2) (by decide) hz2)))))
      · skip
        refine g_eq (ws1 := wM Z h q (rdS S (upd f 0 (nI x1)) (k + 2))) (st1 := [.int 0]) (putM_all Z h q (rdS S (upd f 0 (nI x1)) (k + 2)) _) rfl rfl ?_
        refine g_if_eq hX 36 dM_statement_24 (by decide) (fun c_24 => ?_) (fun c_24 => absurd (rfl) c_24)
        refine g_iconst (v := (-1)) hX dM_statement_36 (by decide) ?_
        exact r_iret hX hQ dM_statement_37 keysM (stm_no (by omega) ((bs_114 hs3).trans ((bs_d (sh := 0) (r := 5) (i := 0) (by decide) hd1).trans (bs_cn (sh := 0) (r := 4) (i := 1) (by decide) hs21))))
    · skip
      refine g_eq (ws1 := wM Z h q (rdS S f (k + 1))) (st1 := [.int 0]) (putM_all Z h q (rdS S f (k + 1)) _) rfl rfl ?_
      refine g_if_eq hX 36 dM_statement_15 (by decide) (fun c_15 => ?_) (fun c_15 => absurd (rfl) c_15)
      refine g_iconst (v := (-1)) hX dM_statement_36 (by decide) ?_
      exact r_iret hX hQ dM_statement_37 keysM (stm_no (by omega) ((bs_114 hs3).trans (bs_dn (sh := 0) (r := 5) (i := 0) (by decide) hz1)))
  · skip
    refine g_eq (ws1 := wM Z h q (rdS S f k)) (st1 := [.int 0]) (putM_all Z h q (rdS S f k) _) rfl rfl ?_
    refine g_if_eq hX 75 dM_statement_6 (by decide) (fun c_6 => ?_) (fun c_6 => absurd (rfl) c_6)
    refine g_aload_n hX dM_statement_75 0 rfl ?_
    refine g_bipush (v := 107) hX dM_statement_76 (by decide) ?_
    refine g_callV hX (con_M_is l Z h q S f k 107 (by decide) nT hN hN96 ⟨by omega, hN96⟩) mvM_is q_688 rfl (by decide) 0 rfl rfl rfl (Nat.le_of_ble_eq_true rfl) dM_statement_78 [0, 1, 2, 3, 4, 5, 6, 7, 8, 9, 10, 11, 12, 13, 14, 15, 16, 17, 18, 19, 20, 21] rfl (subM_all Z h q (rdS S f k)) (fun v w hp => ?_)
    rcases hp with ⟨rfl, ⟨hs78, hl78⟩, rfl⟩ | ⟨rfl, hs78, rfl⟩
    · skip
      refine g_eq (ws1 := wM Z h q (rdS S f (k + 1))) (st1 := [.int 1]) (putM_all Z h q (rdS S f k) _) rfl rfl ?_
      refine g_if_eq hX 141 dM_statement_81 (by decide) (fun c_81 => absurd c_81 (by decide)) (fun c_81 => ?_)
      refine g_aload_n hX dM_statement_84 0 rfl ?_
      refine g_iconst (v := 0) hX dM_statement_85 (by decide) ?_
      refine g_iconst (v := 1) hX dM_statement_86 (by decide) ?_
      refine g_callV hX (con_M_number l Z h q S f (k + 1) 0 1 (by decide) (by decide) (by decide) nT hN hN96 (by omega)) mvM_number q_692 rfl (by decide) 0 rfl rfl rfl (Nat.le_of_ble_eq_true rfl) dM_statement_87 [0, 1, 2, 3, 4, 5, 6, 7, 8, 9, 10, 11, 12, 13, 14, 15, 16, 17, 18, 19, 20, 21] rfl (subM_all Z h q (rdS S f (k + 1))) (fun v w hp => ?_)
      rcases hp with ⟨rfl, n3, x3, hn3, rfl⟩ | ⟨rfl, hz3, rfl⟩
      · skip
        obtain ⟨rfl, hd3, ed3, hx3, hl3⟩ := nd1 hn3
        refine g_eq (ws1 := wM Z h q (rdS S (upd f 0 (nI x3)) (k + 2))) (st1 := [.int 1]) (putM_all Z h q (rdS S f (k + 1)) _) rfl rfl ?_
        refine g_if_eq hX 102 dM_statement_90 (by decide) (fun c_90 => absurd c_90 (by decide)) (fun c_90 => ?_)
        refine g_aload_n hX dM_statement_93 0 rfl ?_
        refine g_iconst (v := 1) hX dM_statement_94 (by decide) ?_
        refine g_iconst (v := 1) hX dM_statement_95 (by decide) ?_
        refine g_callV hX (con_M_number l Z h q S (upd f 0 (nI x3)) (k + 2) 1 1 (by decide) (by decide) (by decide) nT hN hN96 (by omega)) mvM_number q_692 rfl (by decide) 0 rfl rfl rfl (Nat.le_of_ble_eq_true rfl) dM_statement_96 [0, 1, 2, 3, 4, 5, 6, 7, 8, 9, 10, 11, 12, 13, 14, 15, 16, 17, 18, 19, 20, 21] rfl (subM_all Z h q (rdS S (upd f 0 (nI x3)) (k + 2))) (fun v w hp => ?_)
        rcases hp with ⟨rfl, n4, x4, hn4, rfl⟩ | ⟨rfl, hz4, rfl⟩
        · skip
          obtain ⟨rfl, hd4, ed4, hx4, hl4⟩ := nd1 hn4
          refine g_eq (ws1 := wM Z h q (rdS S (upd (upd f 0 (nI x3)) 1 (nI x4)) (k + 3))) (st1 := [.int 1]) (putM_all Z h q (rdS S (upd f 0 (nI x3)) (k + 2)) _) rfl rfl ?_
          refine g_if_ne hX 104 dM_statement_99 (by decide) (fun c_99 => ?_) (fun c_99 => absurd c_99 (by decide))
          refine g_iload_n hX dM_statement_104 1 rfl ?_
          refine g_if_ne hX 110 dM_statement_105 (by decide) (fun c_105 => ?_) (fun c_105 => ?_)
          · refine g_aload_n hX dM_statement_110 0 rfl ?_
            refine g_get hX 0 rfl rfl 19 (by decide) uu_M q_603 rfl rfl dM_statement_111 ?_
            refine g_iconst (v := 0) hX dM_statement_114 (by decide) ?_
            refine g_ald (v := (nI x3)) hX 14 rfl 0 (by omega) (by decide) (rfl) (by first | (rw [rdS_14]; rfl) | (rw [sw_ne _ _ _ (by decide), rdS_14]; rfl) | (rw [sw_ne _ _ _ (by decide), sw_ne _ _ _ (by decide), rdS_14]; rfl) | (rw [sw_ne _ _ _ (by decide), sw_ne _ _ _ (by decide), sw_ne _ _ _ (by decide), sw_ne _ _ _ (by decide), rdS_14]; rfl)) dM_statement_115 ?_
            refine g_iconst (v := 5) hX dM_statement_116 (by decide) ?_
            refine g_icmp_le hX 122 dM_statement_117 (by decide) (fun c_117 => ?_) (fun c_117 => ?_)
            · refine g_aload_n hX dM_statement_122 0 rfl ?_
              refine g_get hX 0 rfl rfl 1 (by decide) uu_M q_585 rfl rfl dM_statement_123 ?_
              refine g_aload_n hX dM_statement_126 0 rfl ?_
              refine g_get hX 0 rfl rfl 19 (by decide) uu_M q_603 rfl rfl dM_statement_127 ?_
              refine g_iconst (v := 0) hX dM_statement_130 (by decide) ?_
              refine g_ald (v := (nI x3)) hX 14 rfl 0 (by omega) (by decide) (rfl) (by first | (rw [rdS_14]; rfl) | (rw [sw_ne _ _ _ (by decide), rdS_14]; rfl) | (rw [sw_ne _ _ _ (by decide), sw_ne _ _ _ (by decide), rdS_14]; rfl) | (rw [sw_ne _ _ _ (by decide), sw_ne _ _ _ (by decide), sw_ne _ _ _ (by decide), sw_ne _ _ _ (by decide), rdS_14]; rfl)) dM_statement_131 ?_
              refine g_aload_n hX dM_statement_132 0 rfl ?_
              refine g_get hX 0 rfl rfl 19 (by decide) uu_M q_603 rfl rfl dM_statement_133 ?_
              refine g_iconst (v := 1) hX dM_statement_136 (by decide) ?_
              refine g_ald (v := (nI x4)) hX 14 rfl 1 (by omega) (by decide) (rfl) (by first | (rw [rdS_14]; rfl) | (rw [sw_ne _ _ _ (by decide), rdS_14]; rfl) | (rw [sw_ne _ _ _ (by decide), sw_ne _ _ _ (by decide), rdS_14]; rfl) | (rw [sw_ne _ _ _ (by decide), sw_ne _ _ _ (by decide), sw_ne _ _ _ (by decide), sw_ne _ _ _ (by decide), rdS_14]; rfl)) dM_statement_137 ?_
              refine g_ast (ws1 := wM Z h q (sw (rdS S (upd (upd f 0 (nI x3)) 1 (nI x4)) (k + 3)) 1 x3 (nI x4))) hX 2 rfl x3 (by have q9 := c_117; rw [show (5 : Int32) = nI 5 from rfl, le_n (by decide) (by omega)] at q9; omega) (by decide) (rfl) dM_statement_138 (setM_S_1 Z h q (rdS S (upd (upd f 0 (nI x3)) 1 (nI x4)) (k + 3)) x3 (nI x4)) ?_
              refine g_eq (ws1 := wM Z h q (rdS (sw S 1 x3 (nI x4)) (upd (upd f 0 (nI x3)) 1 (nI x4)) (k + 3))) (congrArg (wM Z h q) (rdS_other _ _ _ _ (by decide) (by omega))) rfl rfl ?_
              refine g_iconst (v := 1) hX dM_statement_139 (by decide) ?_
              exact r_iret hX hQ dM_statement_140 keysM (by have q117 := c_117; rw [show (5 : Int32) = nI 5 from rfl, le_n (by decide) (by omega)] at q117; have e9 := st_107 (S := S) hs78 ed3 ed4 hx3 hx4; rw [if_pos (by omega), if_pos (by omega)] at e9; exact stm_tell (by omega) (by omega) c_105 ((bs_107 hs78).trans ((bs_d (sh := 1) (r := 2) (i := 0) (by decide) hd3).trans ((bs_d (sh := 1) (r := 1) (i := 1) (by decide) hd4).trans (bs_f (by decide))))) e9.1 e9.2)
            · refine g_iconst (v := 0) hX dM_statement_120 (by decide) ?_
              exact r_iret hX hQ dM_statement_121 keysM (by have q117 := c_117; rw [show (5 : Int32) = nI 5 from rfl, le_n (by decide) (by omega)] at q117; have e9 := st_107 (S := S) hs78 ed3 ed4 hx3 hx4; rw [if_neg (by omega), if_neg (by omega)] at e9; exact stm_tell (by omega) (by omega) c_105 ((bs_107 hs78).trans ((bs_d (sh := 1) (r := 2) (i := 0) (by decide) hd3).trans ((bs_d (sh := 1) (r := 1) (i := 1) (by decide) hd4).trans (bs_f (by decide))))) e9.1 e9.2)
          · refine g_iconst (v := 1) hX dM_statement_108 (by decide) ?_
            exact r_iret hX hQ dM_statement_109 keysM (stm_one (by omega) (by omega) c_105 ((bs_107 hs78).trans ((bs_d (sh := 1) (r := 2) (i := 0) (by decide) hd3).trans ((bs_d (sh := 1) (r := 1) (i := 1) (by decide) hd4).trans (bs_f (by decide))))))
        · skip
          refine g_eq (ws1 := wM Z h q (rdS S (upd f 0 (nI x3)) (k + 2))) (st1 := [.int 0]) (putM_all Z h q (rdS S (upd f 0 (nI x3)) (k + 2)) _) rfl rfl ?_
          refine g_if_ne hX 104 dM_statement_99 (by decide) (fun c_99 => absurd (rfl) c_99) (fun c_99 => ?_)
          refine g_iconst (v := (-1)) hX dM_statement_102 (by decide) ?_
          exact r_iret hX hQ dM_statement_103 keysM (stm_no (by omega) ((bs_107 hs78).trans ((bs_d (sh := 1) (r := 2) (i := 0) (by decide) hd3).trans (bs_dn (sh := 1) (r := 1) (i := 1) (by decide) hz4))))
      · skip
        refine g_eq (ws1 := wM Z h q (rdS S f (k + 1))) (st1 := [.int 0]) (putM_all Z h q (rdS S f (k + 1)) _) rfl rfl ?_
        refine g_if_eq hX 102 dM_statement_90 (by decide) (fun c_90 => ?_) (fun c_90 => absurd (rfl) c_90)
        refine g_iconst (v := (-1)) hX dM_statement_102 (by decide) ?_
        exact r_iret hX hQ dM_statement_103 keysM (stm_no (by omega) ((bs_107 hs78).trans (bs_dn (sh := 1) (r := 2) (i := 0) (by decide) hz3)))
    · skip
      refine g_eq (ws1 := wM Z h q (rdS S f k)) (st1 := [.int 0]) (putM_all Z h q (rdS S f k) _) rfl rfl ?_
      refine g_if_eq hX 141 dM_statement_81 (by decide) (fun c_81 => ?_) (fun c_81 => absurd (rfl) c_81)
      refine g_aload_n hX dM_statement_141 0 rfl ?_
      refine g_bipush (v := 108) hX dM_statement_142 (by decide) ?_
      refine g_callV hX (con_M_is l Z h q S f k 108 (by decide) nT hN hN96 ⟨by omega, hN96⟩) mvM_is q_688 rfl (by decide) 0 rfl rfl rfl (Nat.le_of_ble_eq_true rfl) dM_statement_144 [0, 1, 2, 3, 4, 5, 6, 7, 8, 9, 10, 11, 12, 13, 14, 15, 16, 17, 18, 19, 20, 21] rfl (subM_all Z h q (rdS S f k)) (fun v w hp => ?_)
      rcases hp with ⟨rfl, ⟨hs144, hl144⟩, rfl⟩ | ⟨rfl, hs144, rfl⟩
      · skip
        refine g_eq (ws1 := wM Z h q (rdS S f (k + 1))) (st1 := [.int 1]) (putM_all Z h q (rdS S f k) _) rfl rfl ?_
        refine g_if_eq hX 267 dM_statement_147 (by decide) (fun c_147 => absurd c_147 (by decide)) (fun c_147 => ?_)
        refine g_iconst (v := 0) hX dM_statement_150 (by decide) ?_
        refine g_istore_n (lv1 := [(0, .ref h), (1, .int tl), (2, .int 0)]) hX dM_statement_151 (by decide) [1, 2, 0] rfl ?_
        refine g_iload_n hX dM_statement_152 2 rfl ?_
        refine g_iconst (v := 4) hX dM_statement_153 (by decide) ?_
        refine g_icmp_ge hX 174 dM_statement_154 (by decide) (fun c_154 => absurd c_154 (by decide)) (fun c_154 => ?_)
        refine g_aload_n hX dM_statement_157 0 rfl ?_
        refine g_iload_n hX dM_statement_158 2 rfl ?_
        refine g_iconst (v := 1) hX dM_statement_159 (by decide) ?_
        refine g_callV hX (con_M_number l Z h q S f (k + 1) 0 1 (by decide) (by decide) (by decide) nT hN hN96 (by omega)) mvM_number q_692 rfl (by decide) 0 rfl rfl rfl (Nat.le_of_ble_eq_true rfl) dM_statement_160 [0, 1, 2, 3, 4, 5, 6, 7, 8, 9, 10, 11, 12, 13, 14, 15, 16, 17, 18, 19, 20, 21] rfl (subM_all Z h q (rdS S f (k + 1))) (fun v w hp => ?_)
        rcases hp with ⟨rfl, n5, x5, hn5, rfl⟩ | ⟨rfl, hz5, rfl⟩
        · skip
          obtain ⟨rfl, hd5, ed5, hx5, hl5⟩ := nd1 hn5
          refine g_eq (ws1 := wM Z h q (rdS S (upd f 0 (nI x5)) (k + 2))) (st1 := [.int 1]) (putM_all Z h q (rdS S f (k + 1)) _) rfl rfl ?_
          refine g_if_ne hX 168 dM_statement_163 (by decide) (fun c_163 => ?_) (fun c_163 => absurd c_163 (by decide))
          refine g_iinc (v := 1) (lv1 := [(0, .ref h), (1, .int tl), (2, .int 1)]) hX dM_statement_168 2 rfl (by decide) (by decide) [1, 2, 0] rfl ?_
          refine g_goto hX 152 dM_statement_171 (by decide) ?_
          refine g_iload_n hX dM_statement_152 2 rfl ?_
          refine g_iconst (v := 4) hX dM_statement_153 (by decide) ?_
          refine g_icmp_ge hX 174 dM_statement_154 (by decide) (fun c_154x => absurd c_154x (by decide)) (fun c_154x => ?_)
          refine g_aload_n hX dM_statement_157 0 rfl ?_
          refine g_iload_n hX dM_statement_158 2 rfl ?_
          refine g_iconst (v := 1) hX dM_statement_159 (by decide) ?_
          refine g_callV hX (con_M_number l Z h q S (upd f 0 (nI x5)) (k + 2) 1 1 (by decide) (by decide) (by decide) nT hN hN96 (by omega)) mvM_number q_692 rfl (by decide) 0 rfl rfl rfl (Nat.le_of_ble_eq_true rfl) dM_statement_160 [0, 1, 2, 3, 4, 5, 6, 7, 8, 9, 10, 11, 12, 13, 14, 15, 16, 17, 18, 19, 20, 21] rfl (subM_all Z h q (rdS S (upd f 0 (nI x5)) (k + 2))) (fun v w hp => ?_)
          rcases hp with ⟨rfl, n6, x6, hn6, rfl⟩ | ⟨rfl, hz6, rfl⟩
          · skip
            obtain ⟨rfl, hd6, ed6, hx6, hl6⟩ := nd1 hn6
            refine g_eq (ws1 := wM Z h q (rdS S (upd (upd f 0 (nI x5)) 1 (nI x6)) (k + 3))) (st1 := [.int 1]) (putM_all Z h q (rdS S (upd f 0 (nI x5)) (k + 2)) _) rfl rfl ?_
            refine g_if_ne hX 168 dM_statement_163 (by decide) (fun c_163x => ?_) (fun c_163x => absurd c_163x (by decide))
            refine g_iinc (v := 2) (lv1 := [(0, .ref h), (1, .int tl), (2, .int 2)]) hX dM_statement_168 2 rfl (by decide) (by decide) [1, 2, 0] rfl ?_
            refine g_goto hX 152 dM_statement_171 (by decide) ?_
            refine g_iload_n hX dM_statement_152 2 rfl ?_
            refine g_iconst (v := 4) hX dM_statement_153 (by decide) ?_
            refine g_icmp_ge hX 174 dM_statement_154 (by decide) (fun c_154xx => absurd c_154xx (by decide)) (fun c_154xx => ?_)
            refine g_aload_n hX dM_statement_157 0 rfl ?_
            refine g_iload_n hX dM_statement_158 2 rfl ?_
            refine g_iconst (v := 1) hX dM_statement_159 (by decide) ?_
            refine g_callV hX (con_M_number l Z h q S (upd (upd f 0 (nI x5)) 1 (nI x6)) (k + 3) 2 1 (by decide) (by decide) (by decide) nT hN hN96 (by omega)) mvM_number q_692 rfl (by decide) 0 rfl rfl rfl (Nat.le_of_ble_eq_true rfl) dM_statement_160 [0, 1, 2, 3, 4, 5, 6, 7, 8, 9, 10, 11, 12, 13, 14, 15, 16, 17, 18, 19, 20, 21] rfl (subM_all Z h q (rdS S (upd (upd f 0 (nI x5)) 1 (nI x6)) (k + 3))) (fun v w hp => ?_)
            rcases hp with ⟨rfl, n7, x7, hn7, rfl⟩ | ⟨rfl, hz7, rfl⟩
            · skip
              obtain ⟨rfl, hd7, ed7, hx7, hl7⟩ := nd1 hn7
              refine g_eq (ws1 := wM Z h q (rdS S (upd (upd (upd f 0 (nI x5)) 1 (nI x6)) 2 (nI x7)) (k + 4))) (st1 := [.int 1]) (putM_all Z h q (rdS S (upd (upd f 0 (nI x5)) 1 (nI x6)) (k + 3)) _) rfl rfl ?_
              refine g_if_ne hX 168 dM_statement_163 (by decide) (fun c_163xx => ?_) (fun c_163xx => absurd c_163xx (by decide))
              refine g_iinc (v := 3) (lv1 := [(0, .ref h), (1, .int tl), (2, .int 3)]) hX dM_statement_168 2 rfl (by decide) (by decide) [1, 2, 0] rfl ?_
              refine g_goto hX 152 dM_statement_171 (by decide) ?_
              refine g_iload_n hX dM_statement_152 2 rfl ?_
              refine g_iconst (v := 4) hX dM_statement_153 (by decide) ?_
              refine g_icmp_ge hX 174 dM_statement_154 (by decide) (fun c_154xxx => absurd c_154xxx (by decide)) (fun c_154xxx => ?_)
              refine g_aload_n hX dM_statement_157 0 rfl ?_
              refine g_iload_n hX dM_statement_158 2 rfl ?_
              refine g_iconst (v := 1) hX dM_statement_159 (by decide) ?_
              refine g_callV hX (con_M_number l Z h q S (upd (upd (upd f 0 (nI x5)) 1 (nI x6)) 2 (nI x7)) (k + 4) 3 1 (by decide) (by decide) (by decide) nT hN hN96 (by omega)) mvM_number q_692 rfl (by decide) 0 rfl rfl rfl (Nat.le_of_ble_eq_true rfl) dM_statement_160 [0, 1, 2, 3, 4, 5, 6, 7, 8, 9, 10, 11, 12, 13, 14, 15, 16, 17, 18, 19, 20, 21] rfl (subM_all Z h q (rdS S (upd (upd (upd f 0 (nI x5)) 1 (nI x6)) 2 (nI x7)) (k + 4))) (fun v w hp => ?_)
              rcases hp with ⟨rfl, n8, x8, hn8, rfl⟩ | ⟨rfl, hz8, rfl⟩
              · skip
                obtain ⟨rfl, hd8, ed8, hx8, hl8⟩ := nd1 hn8
                refine g_eq (ws1 := wM Z h q (rdS S (upd (upd (upd (upd f 0 (nI x5)) 1 (nI x6)) 2 (nI x7)) 3 (nI x8)) (k + 5))) (st1 := [.int 1]) (putM_all Z h q (rdS S (upd (upd (upd f 0 (nI x5)) 1 (nI x6)) 2 (nI x7)) (k + 4)) _) rfl rfl ?_
                refine g_if_ne hX 168 dM_statement_163 (by decide) (fun c_163xxx => ?_) (fun c_163xxx => absurd c_163xxx (by decide))
                refine g_iinc (v := 4) (lv1 := [(0, .ref h), (1, .int tl), (2, .int 4)]) hX dM_statement_168 2 rfl (by decide) (by decide) [1, 2, 0] rfl ?_
                refine g_goto hX 152 dM_statement_171 (by decide) ?_
                refine g_iload_n hX dM_statement_152 2 rfl ?_
                refine g_iconst (v := 4) hX dM_statement_153 (by decide) ?_
                refine g_icmp_ge hX 174 dM_statement_154 (by decide) (fun c_154xxxx => ?_) (fun c_154xxxx => absurd (by decide) c_154xxxx)
                refine g_iload_n hX dM_statement_174 1 rfl ?_
                refine g_if_ne hX 180 dM_statement_175 (by decide) (fun c_175 => ?_) (fun c_175 => ?_)
                · refine g_aload_n hX dM_statement_180 0 rfl ?_
                  refine g_get hX 0 rfl rfl 19 (by decide) uu_M q_603 rfl rfl dM_statement_181 ?_
                  refine g_iconst (v := 0) hX dM_statement_184 (by decide) ?_
                  refine g_ald (v := (nI x5)) hX 14 rfl 0 (by omega) (by decide) (rfl) (by first | (rw [rdS_14]; rfl) | (rw [sw_ne _ _ _ (by decide), rdS_14]; rfl) | (rw [sw_ne _ _ _ (by decide), sw_ne _ _ _ (by decide), rdS_14]; rfl) | (rw [sw_ne _ _ _ (by decide), sw_ne _ _ _ (by decide), sw_ne _ _ _ (by decide), sw_ne _ _ _ (by decide), rdS_14]; rfl)) dM_statement_185 ?_
                  refine g_bipush (v := 6) hX dM_statement_186 (by decide) ?_
                  refine g_icmp_gt hX 235 dM_statement_188 (by decide) (fun c_188 => ?_) (fun c_188 => ?_)
                  · refine g_iconst (v := 0) hX dM_statement_235 (by decide) ?_
                    exact r_iret hX hQ dM_statement_236 keysM (by have q188 := c_188; rw [show (6 : Int32) = nI 6 from rfl, gt_n (by decide) (by omega)] at q188; have e9 := st_108 (S := S) hs144 ed5 ed6 ed7 ed8 hx5 hx6 hx7 hx8 hL hL7; rw [if_neg (by omega), if_neg (by omega)] at e9; exact stm_tell (by omega) (by omega) c_175 ((bs_108 hs144).trans ((bs_d (sh := 2) (r := 4) (i := 0) (by decide) hd5).trans ((bs_d (sh := 2) (r := 3) (i := 1) (by decide) hd6).trans ((bs_d (sh := 2) (r := 2) (i := 2) (by decide) hd7).trans ((bs_d (sh := 2) (r := 1) (i := 3) (by decide) hd8).trans (bs_f (by decide))))))) e9.1 e9.2)
                  · refine g_aload_n hX dM_statement_191 0 rfl ?_
                    refine g_get hX 0 rfl rfl 19 (by decide) uu_M q_603 rfl rfl dM_statement_192 ?_
                    refine g_iconst (v := 1) hX dM_statement_195 (by decide) ?_
                    refine g_ald (v := (nI x6)) hX 14 rfl 1 (by omega) (by decide) (rfl) (by first | (rw [rdS_14]; rfl) | (rw [sw_ne _ _ _ (by decide), rdS_14]; rfl) | (rw [sw_ne _ _ _ (by decide), sw_ne _ _ _ (by decide), rdS_14]; rfl) | (rw [sw_ne _ _ _ (by decide), sw_ne _ _ _ (by decide), sw_ne _ _ _ (by decide), sw_ne _ _ _ (by decide), rdS_14]; rfl)) dM_statement_196 ?_
                    refine g_bipush (v := 6) hX dM_statement_197 (by decide) ?_
                    refine g_icmp_gt hX 235 dM_statement_199 (by decide) (fun c_199 => ?_) (fun c_199 => ?_)
                    · refine g_iconst (v := 0) hX dM_statement_235 (by decide) ?_
                      exact r_iret hX hQ dM_statement_236 keysM (by have q188 := c_188; rw [show (6 : Int32) = nI 6 from rfl, gt_n (by decide) (by omega)] at q188; have q199 := c_199; rw [show (6 : Int32) = nI 6 from rfl, gt_n (by decide) (by omega)] at q199; have e9 := st_108 (S := S) hs144 ed5 ed6 ed7 ed8 hx5 hx6 hx7 hx8 hL hL7; rw [if_neg (by omega), if_neg (by omega)] at e9; exact stm_tell (by omega) (by omega) c_175 ((bs_108 hs144).trans ((bs_d (sh := 2) (r := 4) (i := 0) (by decide) hd5).trans ((bs_d (sh := 2) (r := 3) (i := 1) (by decide) hd6).trans ((bs_d (sh := 2) (r := 2) (i := 2) (by decide) hd7).trans ((bs_d (sh := 2) (r := 1) (i := 3) (by decide) hd8).trans (bs_f (by decide))))))) e9.1 e9.2)
                    · refine g_aload_n hX dM_statement_202 0 rfl ?_
                      refine g_get hX 0 rfl rfl 19 (by decide) uu_M q_603 rfl rfl dM_statement_203 ?_
                      refine g_iconst (v := 0) hX dM_statement_206 (by decide) ?_
                      refine g_ald (v := (nI x5)) hX 14 rfl 0 (by omega) (by decide) (rfl) (by first | (rw [rdS_14]; rfl) | (rw [sw_ne _ _ _ (by decide), rdS_14]; rfl) | (rw [sw_ne _ _ _ (by decide), sw_ne _ _ _ (by decide), rdS_14]; rfl) | (rw [sw_ne _ _ _ (by decide), sw_ne _ _ _ (by decide), sw_ne _ _ _ (by decide), sw_ne _ _ _ (by decide), rdS_14]; rfl)) dM_statement_207 ?_
                      refine g_aload_n hX dM_statement_208 0 rfl ?_
                      refine g_get hX 0 rfl rfl 19 (by decide) uu_M q_603 rfl rfl dM_statement_209 ?_
                      refine g_iconst (v := 1) hX dM_statement_212 (by decide) ?_
                      refine g_ald (v := (nI x6)) hX 14 rfl 1 (by omega) (by decide) (rfl) (by first | (rw [rdS_14]; rfl) | (rw [sw_ne _ _ _ (by decide), rdS_14]; rfl) | (rw [sw_ne _ _ _ (by decide), sw_ne _ _ _ (by decide), rdS_14]; rfl) | (rw [sw_ne _ _ _ (by decide), sw_ne _ _ _ (by decide), sw_ne _ _ _ (by decide), sw_ne _ _ _ (by decide), rdS_14]; rfl)) dM_statement_213 ?_
                      refine g_icmp_eq hX 235 dM_statement_214 (by decide) (fun c_214 => ?_) (fun c_214 => ?_)
                      · refine g_iconst (v := 0) hX dM_statement_235 (by decide) ?_
                        exact r_iret hX hQ dM_statement_236 keysM (by have q188 := c_188; rw [show (6 : Int32) = nI 6 from rfl, gt_n (by decide) (by omega)] at q188; have q199 := c_199; rw [show (6 : Int32) = nI 6 from rfl, gt_n (by decide) (by omega)] at q199; have q214 := c_214; rw [nI_eq (by omega) (by omega)] at q214; have e9 := st_108 (S := S) hs144 ed5 ed6 ed7 ed8 hx5 hx6 hx7 hx8 hL hL7; rw [if_neg (by omega), if_neg (by omega)] at e9; exact stm_tell (by omega) (by omega) c_175 ((bs_108 hs144).trans ((bs_d (sh := 2) (r := 4) (i := 0) (by decide) hd5).trans ((bs_d (sh := 2) (r := 3) (i := 1) (by decide) hd6).trans ((bs_d (sh := 2) (r := 2) (i := 2) (by decide) hd7).trans ((bs_d (sh := 2) (r := 1) (i := 3) (by decide) hd8).trans (bs_f (by decide))))))) e9.1 e9.2)
                      · refine g_aload_n hX dM_statement_217 0 rfl ?_
                        refine g_get hX 0 rfl rfl 19 (by decide) uu_M q_603 rfl rfl dM_statement_218 ?_
                        refine g_iconst (v := 3) hX dM_statement_221 (by decide) ?_
                        refine g_ald (v := (nI x8)) hX 14 rfl 3 (by omega) (by decide) (rfl) (by first | (rw [rdS_14]; rfl) | (rw [sw_ne _ _ _ (by decide), rdS_14]; rfl) | (rw [sw_ne _ _ _ (by decide), sw_ne _ _ _ (by decide), rdS_14]; rfl) | (rw [sw_ne _ _ _ (by decide), sw_ne _ _ _ (by decide), sw_ne _ _ _ (by decide), sw_ne _ _ _ (by decide), rdS_14]; rfl)) dM_statement_222 ?_
                        refine g_if_eq hX 235 dM_statement_223 (by decide) (fun c_223 => ?_) (fun c_223 => ?_)
                        · refine g_iconst (v := 0) hX dM_statement_235 (by decide) ?_
                          exact r_iret hX hQ dM_statement_236 keysM (by have q188 := c_188; rw [show (6 : Int32) = nI 6 from rfl, gt_n (by decide) (by omega)] at q188; have q199 := c_199; rw [show (6 : Int32) = nI 6 from rfl, gt_n (by decide) (by omega)] at q199; have q214 := c_214; rw [nI_eq (by omega) (by omega)] at q214; have q223 := c_223; rw [show (0 : Int32) = nI 0 from rfl, nI_eq (by omega) (by omega)] at q223; have e9 := st_108 (S := S) hs144 ed5 ed6 ed7 ed8 hx5 hx6 hx7 hx8 hL hL7; rw [if_neg (by omega), if_neg (by omega)] at e9; exact stm_tell (by omega) (by omega) c_175 ((bs_108 hs144).trans ((bs_d (sh := 2) (r := 4) (i := 0) (by decide) hd5).trans ((bs_d (sh := 2) (r := 3) (i := 1) (by decide) hd6).trans ((bs_d (sh := 2) (r := 2) (i := 2) (by decide) hd7).trans ((bs_d (sh := 2) (r := 1) (i := 3) (by decide) hd8).trans (bs_f (by decide))))))) e9.1 e9.2)
                        · refine g_aload_n hX dM_statement_226 0 rfl ?_
                          refine g_get hX 0 rfl rfl 2 (by decide) uu_M q_586 rfl rfl dM_statement_227 ?_
                          refine g_top (y := (nI nL)) ((rdS_12 _ _ _ (by decide)).trans hL) ?_
                          refine g_bipush (v := 7) hX dM_statement_230 (by decide) ?_
                          refine g_icmp_ne hX 237 dM_statement_232 (by decide) (fun c_232 => ?_) (fun c_232 => ?_)
                          · refine g_aload_n hX dM_statement_237 0 rfl ?_
                            refine g_aload_n hX dM_statement_238 0 rfl ?_
                            refine g_get hX 0 rfl rfl 19 (by decide) uu_M q_603 rfl rfl dM_statement_239 ?_
                            refine g_iconst (v := 0) hX dM_statement_242 (by decide) ?_
                            refine g_ald (v := (nI x5)) hX 14 rfl 0 (by omega) (by decide) (rfl) (by first | (rw [rdS_14]; rfl) | (rw [sw_ne _ _ _ (by decide), rdS_14]; rfl) | (rw [sw_ne _ _ _ (by decide), sw_ne _ _ _ (by decide), rdS_14]; rfl) | (rw [sw_ne _ _ _ (by decide), sw_ne _ _ _ (by decide), sw_ne _ _ _ (by decide), sw_ne _ _ _ (by decide), rdS_14]; rfl)) dM_statement_243 ?_
                            refine g_aload_n hX dM_statement_244 0 rfl ?_
                            refine g_get hX 0 rfl rfl 19 (by decide) uu_M q_603 rfl rfl dM_statement_245 ?_
                            refine g_iconst (v := 1) hX dM_statement_248 (by decide) ?_
                            refine g_ald (v := (nI x6)) hX 14 rfl 1 (by omega) (by decide) (rfl) (by first | (rw [rdS_14]; rfl) | (rw [sw_ne _ _ _ (by decide), rdS_14]; rfl) | (rw [sw_ne _ _ _ (by decide), sw_ne _ _ _ (by decide), rdS_14]; rfl) | (rw [sw_ne _ _ _ (by decide), sw_ne _ _ _ (by decide), sw_ne _ _ _ (by decide), sw_ne _ _ _ (by decide), rdS_14]; rfl)) dM_statement_249 ?_
                            refine g_aload_n hX dM_statement_250 0 rfl ?_
                            refine g_get hX 0 rfl rfl 19 (by decide) uu_M q_603 rfl rfl dM_statement_251 ?_
                            refine g_iconst (v := 2) hX dM_statement_254 (by decide) ?_
                            refine g_ald (v := (nI x7)) hX 14 rfl 2 (by omega) (by decide) (rfl) (by first | (rw [rdS_14]; rfl) | (rw [sw_ne _ _ _ (by decide), rdS_14]; rfl) | (rw [sw_ne _ _ _ (by decide), sw_ne _ _ _ (by decide), rdS_14]; rfl) | (rw [sw_ne _ _ _ (by decide), sw_ne _ _ _ (by decide), sw_ne _ _ _ (by decide), sw_ne _ _ _ (by decide), rdS_14]; rfl)) dM_statement_255 ?_
                            refine g_aload_n hX dM_statement_256 0 rfl ?_
                            refine g_get hX 0 rfl rfl 19 (by decide) uu_M q_603 rfl rfl dM_statement_257 ?_
                            refine g_iconst (v := 3) hX dM_statement_260 (by decide) ?_
                            refine g_ald (v := (nI x8)) hX 14 rfl 3 (by omega) (by decide) (rfl) (by first | (rw [rdS_14]; rfl) | (rw [sw_ne _ _ _ (by decide), rdS_14]; rfl) | (rw [sw_ne _ _ _ (by decide), sw_ne _ _ _ (by decide), rdS_14]; rfl) | (rw [sw_ne _ _ _ (by decide), sw_ne _ _ _ (by decide), sw_ne _ _ _ (by decide), sw_ne _ _ _ (by decide), rdS_14]; rfl)) dM_statement_261 ?_
                            refine g_callV hX (con_M_newLock l Z h q (rdS S (upd (upd (upd (upd f 0 (nI x5)) 1 (nI x6)) 2 (nI x7)) 3 (nI x8)) (k + 5)) (nI x5) (nI x6) (nI x7) (nI x8) nL ((rdS_12 _ _ _ (by decide)).trans hL) (by omega)) mvM_newLock q_700 rfl (by decide) 0 rfl rfl rfl (Nat.le_of_ble_eq_true rfl) dM_statement_262 [0, 1, 2, 3, 4, 5, 6, 7, 8, 9, 10, 11, 12, 13, 14, 15, 16, 17, 18, 19, 20, 21] rfl (subM_all Z h q (rdS S (upd (upd (upd (upd f 0 (nI x5)) 1 (nI x6)) 2 (nI x7)) 3 (nI x8)) (k + 5))) (g_fn (ws1 := wM Z h q (addLock (rdS S (upd (upd (upd (upd f 0 (nI x5)) 1 (nI x6)) 2 (nI x7)) 3 (nI x8)) (k + 5)) nL (nI x5) (nI x6) (nI x7) (nI x8))) (st1 := []) (putM_all Z h q (rdS S (upd (upd (upd (upd f 0 (nI x5)) 1 (nI x6)) 2 (nI x7)) 3 (nI x8)) (k + 5)) (addLock (rdS S (upd (upd (upd (upd f 0 (nI x5)) 1 (nI x6)) 2 (nI x7)) 3 (nI x8)) (k + 5)) nL (nI x5) (nI x6) (nI x7) (nI x8))) rfl ?_)
                            refine g_eq (ws1 := wM Z h q (rdS (addLock S nL (nI x5) (nI x6) (nI x7) (nI x8)) (upd (upd (upd (upd f 0 (nI x5)) 1 (nI x6)) 2 (nI x7)) 3 (nI x8)) (k + 5))) (congrArg (wM Z h q) (rdS_add _ _ _ _ _ _ _ _)) rfl rfl ?_
                            refine g_iconst (v := 1) hX dM_statement_265 (by decide) ?_
                            exact r_iret hX hQ dM_statement_266 keysM (by have q188 := c_188; rw [show (6 : Int32) = nI 6 from rfl, gt_n (by decide) (by omega)] at q188; have q199 := c_199; rw [show (6 : Int32) = nI 6 from rfl, gt_n (by decide) (by omega)] at q199; have q214 := c_214; rw [nI_eq (by omega) (by omega)] at q214; have q223 := c_223; rw [show (0 : Int32) = nI 0 from rfl, nI_eq (by omega) (by omega)] at q223; have q232 := c_232; rw [show (7 : Int32) = nI 7 from rfl, nI_eq (by omega) (by omega)] at q232; have e9 := st_108 (S := S) hs144 ed5 ed6 ed7 ed8 hx5 hx6 hx7 hx8 hL hL7; rw [if_pos (by omega), if_pos (by omega)] at e9; exact stm_tell (by omega) (by omega) c_175 ((bs_108 hs144).trans ((bs_d (sh := 2) (r := 4) (i := 0) (by decide) hd5).trans ((bs_d (sh := 2) (r := 3) (i := 1) (by decide) hd6).trans ((bs_d (sh := 2) (r := 2) (i := 2) (by decide) hd7).trans ((bs_d (sh := 2) (r := 1) (i := 3) (by decide) hd8).trans (bs_f (by decide))))))) e9.1 e9.2)
                          · refine g_iconst (v := 0) hX dM_statement_235 (by decide) ?_
                            exact r_iret hX hQ dM_statement_236 keysM (by have q188 := c_188; rw [show (6 : Int32) = nI 6 from rfl, gt_n (by decide) (by omega)] at q188; have q199 := c_199; rw [show (6 : Int32) = nI 6 from rfl, gt_n (by decide) (by omega)] at q199; have q214 := c_214; rw [nI_eq (by omega) (by omega)] at q214; have q223 := c_223; rw [show (0 : Int32) = nI 0 from rfl, nI_eq (by omega) (by omega)] at q223; have q232 := c_232; rw [show (7 : Int32) = nI 7 from rfl, nI_eq (by omega) (by omega)] at q232; have e9 := st_108 (S := S) hs144 ed5 ed6 ed7 ed8 hx5 hx6 hx7 hx8 hL hL7; rw [if_neg (by omega), if_neg (by omega)] at e9; exact stm_tell (by omega) (by omega) c_175 ((bs_108 hs144).trans ((bs_d (sh := 2) (r := 4) (i := 0) (by decide) hd5).trans ((bs_d (sh := 2) (r := 3) (i := 1) (by decide) hd6).trans ((bs_d (sh := 2) (r := 2) (i := 2) (by decide) hd7).trans ((bs_d (sh := 2) (r := 1) (i := 3) (by decide) hd8).trans (bs_f (by decide))))))) e9.1 e9.2)
                · refine g_iconst (v := 1) hX dM_statement_178 (by decide) ?_
                  exact r_iret hX hQ dM_statement_179 keysM (stm_one (by omega) (by omega) c_175 ((bs_108 hs144).trans ((bs_d (sh := 2) (r := 4) (i := 0) (by decide) hd5).trans ((bs_d (sh := 2) (r := 3) (i := 1) (by decide) hd6).trans ((bs_d (sh := 2) (r := 2) (i := 2) (by decide) hd7).trans ((bs_d (sh := 2) (r := 1) (i := 3) (by decide) hd8).trans (bs_f (by decide))))))))
              · skip
                refine g_eq (ws1 := wM Z h q (rdS S (upd (upd (upd f 0 (nI x5)) 1 (nI x6)) 2 (nI x7)) (k + 4))) (st1 := [.int 0]) (putM_all Z h q (rdS S (upd (upd (upd f 0 (nI x5)) 1 (nI x6)) 2 (nI x7)) (k + 4)) _) rfl rfl ?_
                refine g_if_ne hX 168 dM_statement_163 (by decide) (fun c_163xxx => absurd (rfl) c_163xxx) (fun c_163xxx => ?_)
                refine g_iconst (v := (-1)) hX dM_statement_166 (by decide) ?_
                exact r_iret hX hQ dM_statement_167 keysM (stm_no (by omega) ((bs_108 hs144).trans ((bs_d (sh := 2) (r := 4) (i := 0) (by decide) hd5).trans ((bs_d (sh := 2) (r := 3) (i := 1) (by decide) hd6).trans ((bs_d (sh := 2) (r := 2) (i := 2) (by decide) hd7).trans (bs_dn (sh := 2) (r := 1) (i := 3) (by decide) hz8))))))
            · skip
              refine g_eq (ws1 := wM Z h q (rdS S (upd (upd f 0 (nI x5)) 1 (nI x6)) (k + 3))) (st1 := [.int 0]) (putM_all Z h q (rdS S (upd (upd f 0 (nI x5)) 1 (nI x6)) (k + 3)) _) rfl rfl ?_
              refine g_if_ne hX 168 dM_statement_163 (by decide) (fun c_163xx => absurd (rfl) c_163xx) (fun c_163xx => ?_)
              refine g_iconst (v := (-1)) hX dM_statement_166 (by decide) ?_
              exact r_iret hX hQ dM_statement_167 keysM (stm_no (by omega) ((bs_108 hs144).trans ((bs_d (sh := 2) (r := 4) (i := 0) (by decide) hd5).trans ((bs_d (sh := 2) (r := 3) (i := 1) (by decide) hd6).trans (bs_dn (sh := 2) (r := 2) (i := 2) (by decide) hz7)))))
          · skip
            refine g_eq (ws1 := wM Z h q (rdS S (upd f 0 (nI x5)) (k + 2))) (st1 := [.int 0]) (putM_all Z h q (rdS S (upd f 0 (nI x5)) (k + 2)) _) rfl rfl ?_
            refine g_if_ne hX 168 dM_statement_163 (by decide) (fun c_163x => absurd (rfl) c_163x) (fun c_163x => ?_)
            refine g_iconst (v := (-1)) hX dM_statement_166 (by decide) ?_
            exact r_iret hX hQ dM_statement_167 keysM (stm_no (by omega) ((bs_108 hs144).trans ((bs_d (sh := 2) (r := 4) (i := 0) (by decide) hd5).trans (bs_dn (sh := 2) (r := 3) (i := 1) (by decide) hz6))))
        · skip
          refine g_eq (ws1 := wM Z h q (rdS S f (k + 1))) (st1 := [.int 0]) (putM_all Z h q (rdS S f (k + 1)) _) rfl rfl ?_
          refine g_if_ne hX 168 dM_statement_163 (by decide) (fun c_163 => absurd (rfl) c_163) (fun c_163 => ?_)
          refine g_iconst (v := (-1)) hX dM_statement_166 (by decide) ?_
          exact r_iret hX hQ dM_statement_167 keysM (stm_no (by omega) ((bs_108 hs144).trans (bs_dn (sh := 2) (r := 4) (i := 0) (by decide) hz5)))
      · skip
        refine g_eq (ws1 := wM Z h q (rdS S f k)) (st1 := [.int 0]) (putM_all Z h q (rdS S f k) _) rfl rfl ?_
        refine g_if_eq hX 267 dM_statement_147 (by decide) (fun c_147 => ?_) (fun c_147 => absurd (rfl) c_147)
        refine g_aload_n hX dM_statement_267 0 rfl ?_
        refine g_bipush (v := 112) hX dM_statement_268 (by decide) ?_
        refine g_callV hX (con_M_is l Z h q S f k 112 (by decide) nT hN hN96 ⟨by omega, hN96⟩) mvM_is q_688 rfl (by decide) 0 rfl rfl rfl (Nat.le_of_ble_eq_true rfl) dM_statement_270 [0, 1, 2, 3, 4, 5, 6, 7, 8, 9, 10, 11, 12, 13, 14, 15, 16, 17, 18, 19, 20, 21] rfl (subM_all Z h q (rdS S f k)) (fun v w hp => ?_)
        rcases hp with ⟨rfl, ⟨hs270, hl270⟩, rfl⟩ | ⟨rfl, hs270, rfl⟩
        · skip
          refine g_eq (ws1 := wM Z h q (rdS S f (k + 1))) (st1 := [.int 1]) (putM_all Z h q (rdS S f k) _) rfl rfl ?_
          refine g_if_eq hX 477 dM_statement_273 (by decide) (fun c_273 => absurd c_273 (by decide)) (fun c_273 => ?_)
          refine g_aload_n hX dM_statement_276 0 rfl ?_
          refine g_get hX 0 rfl rfl 18 (by decide) uu_M q_602 rfl rfl dM_statement_277 ?_
          refine g_top (y := (nI (k + 1))) (rdS_at _ _ _) ?_
          refine g_aload_n hX dM_statement_280 0 rfl ?_
          refine g_get hX 0 rfl rfl 16 (by decide) uu_M q_600 rfl rfl dM_statement_281 ?_
          refine g_top (y := (nI nT)) ((rdS_12 _ _ _ (by decide)).trans hN) ?_
          have hJ_317 : G X Z (wM Z h q (rdS S f (k + 1))) 317 [(0, .ref h), (1, .int tl)] [.int (kindOfS (sg (TM S) nT (k + 1)))] := by
            refine g_istore_n (lv1 := [(0, .ref h), (1, .int tl), (2, .int (kindOfS (sg (TM S) nT (k + 1))))]) hX dM_statement_317 (by decide) [1, 2, 0] rfl ?_
            refine g_iload_n hX dM_statement_318 2 rfl ?_
            refine g_if_ge hX 324 dM_statement_319 (by decide) (fun c_319 => ?_) (fun c_319 => ?_)
            · refine g_aload_n hX dM_statement_324 0 rfl ?_
              refine g_dup hX dM_statement_325 rfl ?_
              refine g_get hX 0 rfl rfl 18 (by decide) uu_M q_602 rfl rfl dM_statement_326 ?_
              refine g_top (y := (nI (k + 1))) (rdS_at _ _ _) ?_
              refine g_iconst (v := 1) hX dM_statement_329 (by decide) ?_
              refine g_iadd (z := (nI ((k + 1) + 1))) hX dM_statement_330 (nI_add (k + 1) 1) ?_
              refine g_put (ws1 := wM Z h q (sw (rdS S f (k + 1)) 12 5 (nI ((k + 1) + 1)))) hX 0 rfl rfl 18 (by decide) uu_M tyF_M tyF_M_ok nmF_M q_602 rfl rfl rfl rfl rfl (Nat.le_of_ble_eq_true rfl) dM_statement_331 (fldM_S_12_5 Z h q (rdS S f (k + 1)) (nI ((k + 1) + 1))) ?_
              refine g_eq (ws1 := wM Z h q (rdS S f (k + 2))) (congrArg (wM Z h q) (rdS_goAt S f (k + 1) (k + 2))) rfl rfl ?_
              have hl2 : k + 2 ≤ nT := kd_lt (T := TM S) c_319
              refine g_aload_n hX dM_statement_334 0 rfl ?_
              refine g_iconst (v := 0) hX dM_statement_335 (by decide) ?_
              refine g_iconst (v := 1) hX dM_statement_336 (by decide) ?_
              refine g_callV hX (con_M_number l Z h q S f (k + 2) 0 1 (by decide) (by decide) (by decide) nT hN hN96 (by omega)) mvM_number q_692 rfl (by decide) 0 rfl rfl rfl (Nat.le_of_ble_eq_true rfl) dM_statement_337 [0, 1, 2, 3, 4, 5, 6, 7, 8, 9, 10, 11, 12, 13, 14, 15, 16, 17, 18, 19, 20, 21] rfl (subM_all Z h q (rdS S f (k + 2))) (fun v w hp => ?_)
              rcases hp with ⟨rfl, n9, x9, hn9, rfl⟩ | ⟨rfl, hz9, rfl⟩
              · skip
                obtain ⟨rfl, hd9, ed9, hx9, hl9⟩ := nd1 hn9
                refine g_eq (ws1 := wM Z h q (rdS S (upd f 0 (nI x9)) (k + 3))) (st1 := [.int 1]) (putM_all Z h q (rdS S f (k + 2)) _) rfl rfl ?_
                refine g_if_eq hX 370 dM_statement_340 (by decide) (fun c_340 => absurd c_340 (by decide)) (fun c_340 => ?_)
                refine g_aload_n hX dM_statement_343 0 rfl ?_
                refine g_iconst (v := 1) hX dM_statement_344 (by decide) ?_
                refine g_iconst (v := 1) hX dM_statement_345 (by decide) ?_
                refine g_callV hX (con_M_number l Z h q S (upd f 0 (nI x9)) (k + 3) 1 1 (by decide) (by decide) (by decide) nT hN hN96 (by omega)) mvM_number q_692 rfl (by decide) 0 rfl rfl rfl (Nat.le_of_ble_eq_true rfl) dM_statement_346 [0, 1, 2, 3, 4, 5, 6, 7, 8, 9, 10, 11, 12, 13, 14, 15, 16, 17, 18, 19, 20, 21] rfl (subM_all Z h q (rdS S (upd f 0 (nI x9)) (k + 3))) (fun v w hp => ?_)
                rcases hp with ⟨rfl, n10, x10, hn10, rfl⟩ | ⟨rfl, hz10, rfl⟩
                · skip
                  obtain ⟨rfl, hd10, ed10, hx10, hl10⟩ := nd1 hn10
                  refine g_eq (ws1 := wM Z h q (rdS S (upd (upd f 0 (nI x9)) 1 (nI x10)) (k + 4))) (st1 := [.int 1]) (putM_all Z h q (rdS S (upd f 0 (nI x9)) (k + 3)) _) rfl rfl ?_
                  refine g_if_eq hX 370 dM_statement_349 (by decide) (fun c_349 => absurd c_349 (by decide)) (fun c_349 => ?_)
                  refine g_aload_n hX dM_statement_352 0 rfl ?_
                  refine g_bipush (v := 44) hX dM_statement_353 (by decide) ?_
                  refine g_callV hX (con_M_is l Z h q S (upd (upd f 0 (nI x9)) 1 (nI x10)) (k + 4) 44 (by decide) nT hN hN96 ⟨by omega, hN96⟩) mvM_is q_688 rfl (by decide) 0 rfl rfl rfl (Nat.le_of_ble_eq_true rfl) dM_statement_355 [0, 1, 2, 3, 4, 5, 6, 7, 8, 9, 10, 11, 12, 13, 14, 15, 16, 17, 18, 19, 20, 21] rfl (subM_all Z h q (rdS S (upd (upd f 0 (nI x9)) 1 (nI x10)) (k + 4))) (fun v w hp => ?_)
                  rcases hp with ⟨rfl, ⟨hs355, hl355⟩, rfl⟩ | ⟨rfl, hs355, rfl⟩
                  · skip
                    refine g_eq (ws1 := wM Z h q (rdS S (upd (upd f 0 (nI x9)) 1 (nI x10)) (k + 5))) (st1 := [.int 1]) (putM_all Z h q (rdS S (upd (upd f 0 (nI x9)) 1 (nI x10)) (k + 4)) _) rfl rfl ?_
                    refine g_if_eq hX 370 dM_statement_358 (by decide) (fun c_358 => absurd c_358 (by decide)) (fun c_358 => ?_)
                    refine g_aload_n hX dM_statement_361 0 rfl ?_
                    refine g_iconst (v := 2) hX dM_statement_362 (by decide) ?_
                    refine g_iconst (v := 2) hX dM_statement_363 (by decide) ?_
                    refine g_callV hX (con_M_number l Z h q S (upd (upd f 0 (nI x9)) 1 (nI x10)) (k + 5) 2 2 (by decide) (by decide) (by decide) nT hN hN96 (by omega)) mvM_number q_692 rfl (by decide) 0 rfl rfl rfl (Nat.le_of_ble_eq_true rfl) dM_statement_364 [0, 1, 2, 3, 4, 5, 6, 7, 8, 9, 10, 11, 12, 13, 14, 15, 16, 17, 18, 19, 20, 21] rfl (subM_all Z h q (rdS S (upd (upd f 0 (nI x9)) 1 (nI x10)) (k + 5))) (fun v w hp => ?_)
                    rcases hp with ⟨rfl, n11, x11, hn11, rfl⟩ | ⟨rfl, hz11, rfl⟩
                    · skip
                      obtain ⟨hx11, hb11, hl11, hg11, em11⟩ := nd2 hn11
                      refine g_eq (ws1 := wM Z h q (rdS S (upd (upd (upd f 0 (nI x9)) 1 (nI x10)) 2 (nI x11)) (k + 5 + n11))) (st1 := [.int 1]) (putM_all Z h q (rdS S (upd (upd f 0 (nI x9)) 1 (nI x10)) (k + 5)) _) rfl rfl ?_
                      refine g_if_ne hX 372 dM_statement_367 (by decide) (fun c_367 => ?_) (fun c_367 => absurd c_367 (by decide))
                      refine g_iload_n hX dM_statement_372 1 rfl ?_
                      refine g_if_ne hX 378 dM_statement_373 (by decide) (fun c_373 => ?_) (fun c_373 => ?_)
                      · refine g_aload_n hX dM_statement_378 0 rfl ?_
                        refine g_get hX 0 rfl rfl 19 (by decide) uu_M q_603 rfl rfl dM_statement_379 ?_
                        refine g_iconst (v := 0) hX dM_statement_382 (by decide) ?_
                        refine g_ald (v := (nI x9)) hX 14 rfl 0 (by omega) (by decide) (rfl) (by first | (rw [rdS_14]; rfl) | (rw [sw_ne _ _ _ (by decide), rdS_14]; rfl) | (rw [sw_ne _ _ _ (by decide), sw_ne _ _ _ (by decide), rdS_14]; rfl) | (rw [sw_ne _ _ _ (by decide), sw_ne _ _ _ (by decide), sw_ne _ _ _ (by decide), sw_ne _ _ _ (by decide), rdS_14]; rfl)) dM_statement_383 ?_
                        refine g_bipush (v := 6) hX dM_statement_384 (by decide) ?_
                        refine g_icmp_gt hX 411 dM_statement_386 (by decide) (fun c_386 => ?_) (fun c_386 => ?_)
                        · refine g_iconst (v := 0) hX dM_statement_411 (by decide) ?_
                          exact r_iret hX hQ dM_statement_412 keysM (by have hbF : bs (TM S) nT k = fin (TM S) nT (k + 5 + n11) := (bs_112 hs270).trans ((bs_k (sh := 3) (r := 6) (i := 0) (by decide) c_319).trans ((bs_d (sh := 3) (r := 5) (i := 1) (by decide) hd9).trans ((bs_d (sh := 3) (r := 4) (i := 2) (by decide) hd10).trans ((bs_c (sh := 3) (r := 3) (i := 3) (by decide) hs355).trans (hb11))))); have q386 := c_386; rw [show (6 : Int32) = nI 6 from rfl, gt_n (by decide) (by omega)] at q386; have e9 := st_112 (S := S) hs270 c_319 ed9 ed10 (em11 (fin_59 (by omega) (by rw [← hbF]; exact htl c_373))) hx9 hx10 hx11 hP hP5; rw [if_neg (by omega), if_neg (by omega)] at e9; exact stm_tell (by omega) (by omega) c_373 (hbF) e9.1 e9.2)
                        · refine g_aload_n hX dM_statement_389 0 rfl ?_
                          refine g_get hX 0 rfl rfl 19 (by decide) uu_M q_603 rfl rfl dM_statement_390 ?_
                          refine g_iconst (v := 1) hX dM_statement_393 (by decide) ?_
                          refine g_ald (v := (nI x10)) hX 14 rfl 1 (by omega) (by decide) (rfl) (by first | (rw [rdS_14]; rfl) | (rw [sw_ne _ _ _ (by decide), rdS_14]; rfl) | (rw [sw_ne _ _ _ (by decide), sw_ne _ _ _ (by decide), rdS_14]; rfl) | (rw [sw_ne _ _ _ (by decide), sw_ne _ _ _ (by decide), sw_ne _ _ _ (by decide), sw_ne _ _ _ (by decide), rdS_14]; rfl)) dM_statement_394 ?_
                          refine g_iconst (v := 1) hX dM_statement_395 (by decide) ?_
                          refine g_iconst (v := 5) hX dM_statement_396 (by decide) ?_
                          refine g_callS hX (con_M_within l Z (nI x10) 1 5) msM_within q_762 rfl (by decide) rfl (Nat.le_of_ble_eq_true rfl) dM_statement_397 [] rfl (rfl) (g_fn (ws1 := wM Z h q (rdS S (upd (upd (upd f 0 (nI x9)) 1 (nI x10)) 2 (nI x11)) (k + 5 + n11))) (st1 := [.int (wthS (nI x10) 1 5)]) (rfl) rfl ?_)
                          refine g_if_eq hX 411 dM_statement_400 (by decide) (fun c_400 => ?_) (fun c_400 => ?_)
                          · refine g_iconst (v := 0) hX dM_statement_411 (by decide) ?_
                            exact r_iret hX hQ dM_statement_412 keysM (by have hbF : bs (TM S) nT k = fin (TM S) nT (k + 5 + n11) := (bs_112 hs270).trans ((bs_k (sh := 3) (r := 6) (i := 0) (by decide) c_319).trans ((bs_d (sh := 3) (r := 5) (i := 1) (by decide) hd9).trans ((bs_d (sh := 3) (r := 4) (i := 2) (by decide) hd10).trans ((bs_c (sh := 3) (r := 3) (i := 3) (by decide) hs355).trans (hb11))))); have q386 := c_386; rw [show (6 : Int32) = nI 6 from rfl, gt_n (by decide) (by omega)] at q386; have q400 := c_400; rw [wth15 (by omega)] at q400; have r400 := ite_n q400; have e9 := st_112 (S := S) hs270 c_319 ed9 ed10 (em11 (fin_59 (by omega) (by rw [← hbF]; exact htl c_373))) hx9 hx10 hx11 hP hP5; rw [if_neg (by omega), if_neg (by omega)] at e9; exact stm_tell (by omega) (by omega) c_373 (hbF) e9.1 e9.2)
                          · refine g_aload_n hX dM_statement_403 0 rfl ?_
                            refine g_get hX 0 rfl rfl 8 (by decide) uu_M q_592 rfl rfl dM_statement_404 ?_
                            refine g_top (y := (nI nP)) (by first | exact (rdS_12 _ _ _ (by decide)).trans hP | (rw [sw_ne _ _ _ (by decide)]; exact (rdS_12 _ _ _ (by decide)).trans hP) | (rw [sw_ne _ _ _ (by decide), sw_ne _ _ _ (by decide)]; exact (rdS_12 _ _ _ (by decide)).trans hP) | (rw [sw_ne _ _ _ (by decide), sw_ne _ _ _ (by decide), sw_ne _ _ _ (by decide)]; exact (rdS_12 _ _ _ (by decide)).trans hP)) ?_
                            refine g_iconst (v := 5) hX dM_statement_407 (by decide) ?_
                            refine g_icmp_ne hX 413 dM_statement_408 (by decide) (fun c_408 => ?_) (fun c_408 => ?_)
                            · refine g_aload_n hX dM_statement_413 0 rfl ?_
                              refine g_get hX 0 rfl rfl 9 (by decide) uu_M q_593 rfl rfl dM_statement_414 ?_
                              refine g_aload_n hX dM_statement_417 0 rfl ?_
                              refine g_get hX 0 rfl rfl 8 (by decide) uu_M q_592 rfl rfl dM_statement_418 ?_
                              refine g_top (y := (nI nP)) (by first | exact (rdS_12 _ _ _ (by decide)).trans hP | (rw [sw_ne _ _ _ (by decide)]; exact (rdS_12 _ _ _ (by decide)).trans hP) | (rw [sw_ne _ _ _ (by decide), sw_ne _ _ _ (by decide)]; exact (rdS_12 _ _ _ (by decide)).trans hP) | (rw [sw_ne _ _ _ (by decide), sw_ne _ _ _ (by decide), sw_ne _ _ _ (by decide)]; exact (rdS_12 _ _ _ (by decide)).trans hP)) ?_
                              refine g_iload_n hX dM_statement_421 2 rfl ?_
                              refine g_ast (ws1 := wM Z h q (sw (rdS S (upd (upd (upd f 0 (nI x9)) 1 (nI x10)) 2 (nI x11)) (k + 5 + n11)) 7 nP (kindOfS (sg (TM S) nT (k + 1))))) hX 8 rfl nP (by have q9 := c_408; rw [show (5 : Int32) = nI 5 from rfl, nI_eq (by omega) (by omega)] at q9; omega) (by decide) (rfl) dM_statement_422 (setM_S_7 Z h q (rdS S (upd (upd (upd f 0 (nI x9)) 1 (nI x10)) 2 (nI x11)) (k + 5 + n11)) nP (kindOfS (sg (TM S) nT (k + 1)))) ?_
                              refine g_aload_n hX dM_statement_423 0 rfl ?_
                              refine g_get hX 0 rfl rfl 10 (by decide) uu_M q_594 rfl rfl dM_statement_424 ?_
                              refine g_aload_n hX dM_statement_427 0 rfl ?_
                              refine g_get hX 0 rfl rfl 8 (by decide) uu_M q_592 rfl rfl dM_statement_428 ?_
                              refine g_top (y := (nI nP)) (by first | exact (rdS_12 _ _ _ (by decide)).trans hP | (rw [sw_ne _ _ _ (by decide)]; exact (rdS_12 _ _ _ (by decide)).trans hP) | (rw [sw_ne _ _ _ (by decide), sw_ne _ _ _ (by decide)]; exact (rdS_12 _ _ _ (by decide)).trans hP) | (rw [sw_ne _ _ _ (by decide), sw_ne _ _ _ (by decide), sw_ne _ _ _ (by decide)]; exact (rdS_12 _ _ _ (by decide)).trans hP)) ?_
                              refine g_aload_n hX dM_statement_431 0 rfl ?_
                              refine g_get hX 0 rfl rfl 19 (by decide) uu_M q_603 rfl rfl dM_statement_432 ?_
                              refine g_iconst (v := 0) hX dM_statement_435 (by decide) ?_
                              refine g_ald (v := (nI x9)) hX 14 rfl 0 (by omega) (by decide) (rfl) (by first | (rw [rdS_14]; rfl) | (rw [sw_ne _ _ _ (by decide), rdS_14]; rfl) | (rw [sw_ne _ _ _ (by decide), sw_ne _ _ _ (by decide), rdS_14]; rfl) | (rw [sw_ne _ _ _ (by decide), sw_ne _ _ _ (by decide), sw_ne _ _ _ (by decide), sw_ne _ _ _ (by decide), rdS_14]; rfl)) dM_statement_436 ?_
                              refine g_ast (ws1 := wM Z h q (sw (sw (rdS S (upd (upd (upd f 0 (nI x9)) 1 (nI x10)) 2 (nI x11)) (k + 5 + n11)) 7 nP (kindOfS (sg (TM S) nT (k + 1)))) 8 nP (nI x9))) hX 9 rfl nP (by have q9 := c_408; rw [show (5 : Int32) = nI 5 from rfl, nI_eq (by omega) (by omega)] at q9; omega) (by decide) (rfl) dM_statement_437 (setM_S_8 Z h q (sw (rdS S (upd (upd (upd f 0 (nI x9)) 1 (nI x10)) 2 (nI x11)) (k + 5 + n11)) 7 nP (kindOfS (sg (TM S) nT (k + 1)))) nP (nI x9)) ?_
                              refine g_aload_n hX dM_statement_438 0 rfl ?_
                              refine g_get hX 0 rfl rfl 11 (by decide) uu_M q_595 rfl rfl dM_statement_439 ?_
                              refine g_aload_n hX dM_statement_442 0 rfl ?_
                              refine g_get hX 0 rfl rfl 8 (by decide) uu_M q_592 rfl rfl dM_statement_443 ?_
                              refine g_top (y := (nI nP)) (by first | exact (rdS_12 _ _ _ (by decide)).trans hP | (rw [sw_ne _ _ _ (by decide)]; exact (rdS_12 _ _ _ (by decide)).trans hP) | (rw [sw_ne _ _ _ (by decide), sw_ne _ _ _ (by decide)]; exact (rdS_12 _ _ _ (by decide)).trans hP) | (rw [sw_ne _ _ _ (by decide), sw_ne _ _ _ (by decide), sw_ne _ _ _ (by decide)]; exact (rdS_12 _ _ _ (by decide)).trans hP)) ?_
                              refine g_aload_n hX dM_statement_446 0 rfl ?_
                              refine g_get hX 0 rfl rfl 19 (by decide) uu_M q_603 rfl rfl dM_statement_447 ?_
                              refine g_iconst (v := 1) hX dM_statement_450 (by decide) ?_
                              refine g_ald (v := (nI x10)) hX 14 rfl 1 (by omega) (by decide) (rfl) (by first | (rw [rdS_14]; rfl) | (rw [sw_ne _ _ _ (by decide), rdS_14]; rfl) | (rw [sw_ne _ _ _ (by decide), sw_ne _ _ _ (by decide), rdS_14]; rfl) | (rw [sw_ne _ _ _ (by decide), sw_ne _ _ _ (by decide), sw_ne _ _ _ (by decide), sw_ne _ _ _ (by decide), rdS_14]; rfl)) dM_statement_451 ?_
                              refine g_ast (ws1 := wM Z h q (sw (sw (sw (rdS S (upd (upd (upd f 0 (nI x9)) 1 (nI x10)) 2 (nI x11)) (k + 5 + n11)) 7 nP (kindOfS (sg (TM S) nT (k + 1)))) 8 nP (nI x9)) 9 nP (nI x10))) hX 10 rfl nP (by have q9 := c_408; rw [show (5 : Int32) = nI 5 from rfl, nI_eq (by omega) (by omega)] at q9; omega) (by decide) (rfl) dM_statement_452 (setM_S_9 Z h q (sw (sw (rdS S (upd (upd (upd f 0 (nI x9)) 1 (nI x10)) 2 (nI x11)) (k + 5 + n11)) 7 nP (kindOfS (sg (TM S) nT (k + 1)))) 8 nP (nI x9)) nP (nI x10)) ?_
                              refine g_aload_n hX dM_statement_453 0 rfl ?_
                              refine g_get hX 0 rfl rfl 12 (by decide) uu_M q_596 rfl rfl dM_statement_454 ?_
                              refine g_aload_n hX dM_statement_457 0 rfl ?_
                              refine g_dup hX dM_statement_458 rfl ?_
                              refine g_get hX 0 rfl rfl 8 (by decide) uu_M q_592 rfl rfl dM_statement_459 ?_
                              refine g_top (y := (nI nP)) (by first | exact (rdS_12 _ _ _ (by decide)).trans hP | (rw [sw_ne _ _ _ (by decide)]; exact (rdS_12 _ _ _ (by decide)).trans hP) | (rw [sw_ne _ _ _ (by decide), sw_ne _ _ _ (by decide)]; exact (rdS_12 _ _ _ (by decide)).trans hP) | (rw [sw_ne _ _ _ (by decide), sw_ne _ _ _ (by decide), sw_ne _ _ _ (by decide)]; exact (rdS_12 _ _ _ (by decide)).trans hP)) ?_
                              refine g_dup_x1 hX dM_statement_462 rfl rfl ?_
                              refine g_iconst (v := 1) hX dM_statement_463 (by decide) ?_
                              refine g_iadd (z := (nI (nP + 1))) hX dM_statement_464 (nI_add nP 1) ?_
                              refine g_put (ws1 := wM Z h q (sw (sw (sw (sw (rdS S (upd (upd (upd f 0 (nI x9)) 1 (nI x10)) 2 (nI x11)) (k + 5 + n11)) 7 nP (kindOfS (sg (TM S) nT (k + 1)))) 8 nP (nI x9)) 9 nP (nI x10)) 12 1 (nI (nP + 1)))) hX 0 rfl rfl 8 (by decide) uu_M tyF_M tyF_M_ok nmF_M q_592 rfl rfl rfl rfl rfl (Nat.le_of_ble_eq_true rfl) dM_statement_465 (fldM_S_12_1 Z h q (sw (sw (sw (rdS S (upd (upd (upd f 0 (nI x9)) 1 (nI x10)) 2 (nI x11)) (k + 5 + n11)) 7 nP (kindOfS (sg (TM S) nT (k + 1)))) 8 nP (nI x9)) 9 nP (nI x10)) (nI (nP + 1))) ?_
                              refine g_aload_n hX dM_statement_468 0 rfl ?_
                              refine g_get hX 0 rfl rfl 19 (by decide) uu_M q_603 rfl rfl dM_statement_469 ?_
                              refine g_iconst (v := 2) hX dM_statement_472 (by decide) ?_
                              refine g_ald (v := (nI x11)) hX 14 rfl 2 (by omega) (by decide) (rfl) (by first | (rw [rdS_14]; rfl) | (rw [sw_ne _ _ _ (by decide), rdS_14]; rfl) | (rw [sw_ne _ _ _ (by decide), sw_ne _ _ _ (by decide), rdS_14]; rfl) | (rw [sw_ne _ _ _ (by decide), sw_ne _ _ _ (by decide), sw_ne _ _ _ (by decide), sw_ne _ _ _ (by decide), rdS_14]; rfl)) dM_statement_473 ?_
                              refine g_ast (ws1 := wM Z h q (sw (sw (sw (sw (sw (rdS S (upd (upd (upd f 0 (nI x9)) 1 (nI x10)) 2 (nI x11)) (k + 5 + n11)) 7 nP (kindOfS (sg (TM S) nT (k + 1)))) 8 nP (nI x9)) 9 nP (nI x10)) 12 1 (nI (nP + 1))) 10 nP (nI x11))) hX 11 rfl nP (by have q9 := c_408; rw [show (5 : Int32) = nI 5 from rfl, nI_eq (by omega) (by omega)] at q9; omega) (by decide) (rfl) dM_statement_474 (setM_S_10 Z h q (sw (sw (sw (sw (rdS S (upd (upd (upd f 0 (nI x9)) 1 (nI x10)) 2 (nI x11)) (k + 5 + n11)) 7 nP (kindOfS (sg (TM S) nT (k + 1)))) 8 nP (nI x9)) 9 nP (nI x10)) 12 1 (nI (nP + 1))) nP (nI x11)) ?_
                              refine g_eq (ws1 := wM Z h q (rdS (addPerson S nP (kindOfS (sg (TM S) nT (k + 1))) (nI x9) (nI x10) (nI x11)) (upd (upd (upd f 0 (nI x9)) 1 (nI x10)) 2 (nI x11)) (k + 5 + n11))) (congrArg (wM Z h q) (rdS_per _ _ _ _ _ _ _ _)) rfl rfl ?_
                              refine g_iconst (v := 1) hX dM_statement_475 (by decide) ?_
                              exact r_iret hX hQ dM_statement_476 keysM (by have hbF : bs (TM S) nT k = fin (TM S) nT (k + 5 + n11) := (bs_112 hs270).trans ((bs_k (sh := 3) (r := 6) (i := 0) (by decide) c_319).trans ((bs_d (sh := 3) (r := 5) (i := 1) (by decide) hd9).trans ((bs_d (sh := 3) (r := 4) (i := 2) (by decide) hd10).trans ((bs_c (sh := 3) (r := 3) (i := 3) (by decide) hs355).trans (hb11))))); have q386 := c_386; rw [show (6 : Int32) = nI 6 from rfl, gt_n (by decide) (by omega)] at q386; have q400 := c_400; rw [wth15 (by omega)] at q400; have r400 := ite_y q400; have q408 := c_408; rw [show (5 : Int32) = nI 5 from rfl, nI_eq (by omega) (by omega)] at q408; have e9 := st_112 (S := S) hs270 c_319 ed9 ed10 (em11 (fin_59 (by omega) (by rw [← hbF]; exact htl c_373))) hx9 hx10 hx11 hP hP5; rw [if_pos (by omega), if_pos (by omega)] at e9; exact stm_tell (by omega) (by omega) c_373 (hbF) e9.1 e9.2)
                            · refine g_iconst (v := 0) hX dM_statement_411 (by decide) ?_
                              exact r_iret hX hQ dM_statement_412 keysM (by have hbF : bs (TM S) nT k = fin (TM S) nT (k + 5 + n11) := (bs_112 hs270).trans ((bs_k (sh := 3) (r := 6) (i := 0) (by decide) c_319).trans ((bs_d (sh := 3) (r := 5) (i := 1) (by decide) hd9).trans ((bs_d (sh := 3) (r := 4) (i := 2) (by decide) hd10).trans ((bs_c (sh := 3) (r := 3) (i := 3) (by decide) hs355).trans (hb11))))); have q386 := c_386; rw [show (6 : Int32) = nI 6 from rfl, gt_n (by decide) (by omega)] at q386; have q400 := c_400; rw [wth15 (by omega)] at q400; have r400 := ite_y q400; have q408 := c_408; rw [show (5 : Int32) = nI 5 from rfl, nI_eq (by omega) (by omega)] at q408; have e9 := st_112 (S := S) hs270 c_319 ed9 ed10 (em11 (fin_59 (by omega) (by rw [← hbF]; exact htl c_373))) hx9 hx10 hx11 hP hP5; rw [if_neg (by omega), if_neg (by omega)] at e9; exact stm_tell (by omega) (by omega) c_373 (hbF) e9.1 e9.2)
                      · refine g_iconst (v := 1) hX dM_statement_376 (by decide) ?_
                        exact r_iret hX hQ dM_statement_377 keysM (stm_one (by omega) (by omega) c_373 ((bs_112 hs270).trans ((bs_k (sh := 3) (r := 6) (i := 0) (by decide) c_319).trans ((bs_d (sh := 3) (r := 5) (i := 1) (by decide) hd9).trans ((bs_d (sh := 3) (r := 4) (i := 2) (by decide) hd10).trans ((bs_c (sh := 3) (r := 3) (i := 3) (by decide) hs355).trans (hb11)))))))
                    · skip
                      refine g_eq (ws1 := wM Z h q (rdS S (upd (upd f 0 (nI x9)) 1 (nI x10)) (k + 5))) (st1 := [.int 0]) (putM_all Z h q (rdS S (upd (upd f 0 (nI x9)) 1 (nI x10)) (k + 5)) _) rfl rfl ?_
                      refine g_if_ne hX 372 dM_statement_367 (by decide) (fun c_367 => absurd (rfl) c_367) (fun c_367 => ?_)
                      refine g_iconst (v := (-1)) hX dM_statement_370 (by decide) ?_
                      exact r_iret hX hQ dM_statement_371 keysM (stm_no (by omega) ((bs_112 hs270).trans ((bs_k (sh := 3) (r := 6) (i := 0) (by decide) c_319).trans ((bs_d (sh := 3) (r := 5) (i := 1) (by decide) hd9).trans ((bs_d (sh := 3) (r := 4) (i := 2) (by decide) hd10).trans ((bs_c (sh := 3) (r := 3) (i := 3) (by decide) hs355).trans (bs_dn (sh := 3) (r := 2) (i := 4) (by decide) hz11)))))))
                  · skip
                    refine g_eq (ws1 := wM Z h q (rdS S (upd (upd f 0 (nI x9)) 1 (nI x10)) (k + 4))) (st1 := [.int 0]) (putM_all Z h q (rdS S (upd (upd f 0 (nI x9)) 1 (nI x10)) (k + 4)) _) rfl rfl ?_
                    refine g_if_eq hX 370 dM_statement_358 (by decide) (fun c_358 => ?_) (fun c_358 => absurd (rfl) c_358)
                    refine g_iconst (v := (-1)) hX dM_statement_370 (by decide) ?_
                    exact r_iret hX hQ dM_statement_371 keysM (stm_no (by omega) ((bs_112 hs270).trans ((bs_k (sh := 3) (r := 6) (i := 0) (by decide) c_319).trans ((bs_d (sh := 3) (r := 5) (i := 1) (by decide) hd9).trans ((bs_d (sh := 3) (r := 4) (i := 2) (by decide) hd10).trans (bs_cn (sh := 3) (r := 3) (i := 3) (by decide) hs355))))))
                · skip
                  refine g_eq (ws1 := wM Z h q (rdS S (upd f 0 (nI x9)) (k + 3))) (st1 := [.int 0]) (putM_all Z h q (rdS S (upd f 0 (nI x9)) (k + 3)) _) rfl rfl ?_
                  refine g_if_eq hX 370 dM_statement_349 (by decide) (fun c_349 => ?_) (fun c_349 => absurd (rfl) c_349)
                  refine g_iconst (v := (-1)) hX dM_statement_370 (by decide) ?_
                  exact r_iret hX hQ dM_statement_371 keysM (stm_no (by omega) ((bs_112 hs270).trans ((bs_k (sh := 3) (r := 6) (i := 0) (by decide) c_319).trans ((bs_d (sh := 3) (r := 5) (i := 1) (by decide) hd9).trans (bs_dn (sh := 3) (r := 4) (i := 2) (by decide) hz10)))))
              · skip
                refine g_eq (ws1 := wM Z h q (rdS S f (k + 2))) (st1 := [.int 0]) (putM_all Z h q (rdS S f (k + 2)) _) rfl rfl ?_
                refine g_if_eq hX 370 dM_statement_340 (by decide) (fun c_340 => ?_) (fun c_340 => absurd (rfl) c_340)
                refine g_iconst (v := (-1)) hX dM_statement_370 (by decide) ?_
                exact r_iret hX hQ dM_statement_371 keysM (stm_no (by omega) ((bs_112 hs270).trans ((bs_k (sh := 3) (r := 6) (i := 0) (by decide) c_319).trans (bs_dn (sh := 3) (r := 5) (i := 1) (by decide) hz9))))
            · refine g_iconst (v := (-1)) hX dM_statement_322 (by decide) ?_
              exact r_iret hX hQ dM_statement_323 keysM (stm_no (by omega) ((bs_112 hs270).trans (bs_kn (sh := 3) (r := 6) (i := 0) (by decide) c_319)))
          refine g_icmp_ge hX 316 dM_statement_284 (by decide) (fun c_284 => ?_) (fun c_284 => ?_)
          · refine g_iconst (v := (-1)) hX dM_statement_316 (by decide) ?_
            refine g_top (y := (kindOfS (sg (TM S) nT (k + 1)))) (by first | exact kd_out hN96 (by omega) c_284 | exact kd_zero hN96 (by omega) c_284 hb9 eb9 c_296 | exact kd_in hN96 (by omega) c_284 eb9) ?_
            exact hJ_317
          · obtain ⟨b9, hb9, eb9⟩ := hB (k + 1) (lt_of_n hN96 (by omega) c_284)
            refine g_aload_n hX dM_statement_287 0 rfl ?_
            refine g_get hX 0 rfl rfl 17 (by decide) uu_M q_601 rfl rfl dM_statement_288 ?_
            refine g_aload_n hX dM_statement_291 0 rfl ?_
            refine g_get hX 0 rfl rfl 18 (by decide) uu_M q_602 rfl rfl dM_statement_292 ?_
            refine g_top (y := (nI (k + 1))) (rdS_at _ _ _) ?_
            refine g_ald (v := (nI b9)) hX 13 rfl (k + 1) (by have := lt_of_n hN96 (by omega) c_284; omega) (by decide) (rfl) ((congrFun (rdS_row S _ _ (by decide) (by decide)) (k + 1)).trans eb9) dM_statement_295 ?_
            refine g_if_le hX 316 dM_statement_296 (by decide) (fun c_296 => ?_) (fun c_296 => ?_)
            · refine g_iconst (v := (-1)) hX dM_statement_316 (by decide) ?_
              refine g_top (y := (kindOfS (sg (TM S) nT (k + 1)))) (by first | exact kd_out hN96 (by omega) c_284 | exact kd_zero hN96 (by omega) c_284 hb9 eb9 c_296 | exact kd_in hN96 (by omega) c_284 eb9) ?_
              exact hJ_317
            · refine g_ldcS (i := 5) hX (by decide) rfl rfl dM_statement_299 ?_
              refine g_aload_n hX dM_statement_301 0 rfl ?_
              refine g_get hX 0 rfl rfl 17 (by decide) uu_M q_601 rfl rfl dM_statement_302 ?_
              refine g_aload_n hX dM_statement_305 0 rfl ?_
              refine g_get hX 0 rfl rfl 18 (by decide) uu_M q_602 rfl rfl dM_statement_306 ?_
              refine g_top (y := (nI (k + 1))) (rdS_at _ _ _) ?_
              refine g_ald (v := (nI b9)) hX 13 rfl (k + 1) (by have := lt_of_n hN96 (by omega) c_284; omega) (by decide) (rfl) ((congrFun (rdS_row S _ _ (by decide) (by decide)) (k + 1)).trans eb9) dM_statement_309 ?_
              refine g_callT hX (con_JS_indexOf0 l Z b9 hb9) mvJS_indexOf0 q_707 rfl (by decide) (by decide) rfl rfl (Nat.le_of_ble_eq_true rfl) dM_statement_310 [] rfl (rfl) (g_fn (ws1 := wM Z h q (rdS S f (k + 1))) (st1 := [.int (kindOfS (nI b9))]) (rfl) rfl ?_)
              refine g_goto hX 317 dM_statement_313 (by decide) ?_
              refine g_top (y := (kindOfS (sg (TM S) nT (k + 1)))) (by first | exact kd_out hN96 (by omega) c_284 | exact kd_zero hN96 (by omega) c_284 hb9 eb9 c_296 | exact kd_in hN96 (by omega) c_284 eb9) ?_
              exact hJ_317
        · skip
          refine g_eq (ws1 := wM Z h q (rdS S f k)) (st1 := [.int 0]) (putM_all Z h q (rdS S f k) _) rfl rfl ?_
          refine g_if_eq hX 477 dM_statement_273 (by decide) (fun c_273 => ?_) (fun c_273 => absurd (rfl) c_273)
          refine g_aload_n hX dM_statement_477 0 rfl ?_
          refine g_bipush (v := 115) hX dM_statement_478 (by decide) ?_
          refine g_callV hX (con_M_is l Z h q S f k 115 (by decide) nT hN hN96 ⟨by omega, hN96⟩) mvM_is q_688 rfl (by decide) 0 rfl rfl rfl (Nat.le_of_ble_eq_true rfl) dM_statement_480 [0, 1, 2, 3, 4, 5, 6, 7, 8, 9, 10, 11, 12, 13, 14, 15, 16, 17, 18, 19, 20, 21] rfl (subM_all Z h q (rdS S f k)) (fun v w hp => ?_)
          rcases hp with ⟨rfl, ⟨hs480, hl480⟩, rfl⟩ | ⟨rfl, hs480, rfl⟩
          · skip
            refine g_eq (ws1 := wM Z h q (rdS S f (k + 1))) (st1 := [.int 1]) (putM_all Z h q (rdS S f k) _) rfl rfl ?_
            refine g_if_eq hX 504 dM_statement_483 (by decide) (fun c_483 => absurd c_483 (by decide)) (fun c_483 => ?_)
            refine g_aload_n hX dM_statement_486 0 rfl ?_
            refine g_iconst (v := 0) hX dM_statement_487 (by decide) ?_
            refine g_iconst (v := 1) hX dM_statement_488 (by decide) ?_
            refine g_callV hX (con_M_number l Z h q S f (k + 1) 0 1 (by decide) (by decide) (by decide) nT hN hN96 (by omega)) mvM_number q_692 rfl (by decide) 0 rfl rfl rfl (Nat.le_of_ble_eq_true rfl) dM_statement_489 [0, 1, 2, 3, 4, 5, 6, 7, 8, 9, 10, 11, 12, 13, 14, 15, 16, 17, 18, 19, 20, 21] rfl (subM_all Z h q (rdS S f (k + 1))) (fun v w hp => ?_)
            rcases hp with ⟨rfl, n12, x12, hn12, rfl⟩ | ⟨rfl, hz12, rfl⟩
            · skip
              obtain ⟨rfl, hd12, ed12, hx12, hl12⟩ := nd1 hn12
              refine g_eq (ws1 := wM Z h q (rdS S (upd f 0 (nI x12)) (k + 2))) (st1 := [.int 1]) (putM_all Z h q (rdS S f (k + 1)) _) rfl rfl ?_
              refine g_if_eq hX 504 dM_statement_492 (by decide) (fun c_492 => absurd c_492 (by decide)) (fun c_492 => ?_)
              refine g_aload_n hX dM_statement_495 0 rfl ?_
              refine g_iconst (v := 1) hX dM_statement_496 (by decide) ?_
              refine g_iconst (v := 1) hX dM_statement_497 (by decide) ?_
              refine g_callV hX (con_M_number l Z h q S (upd f 0 (nI x12)) (k + 2) 1 1 (by decide) (by decide) (by decide) nT hN hN96 (by omega)) mvM_number q_692 rfl (by decide) 0 rfl rfl rfl (Nat.le_of_ble_eq_true rfl) dM_statement_498 [0, 1, 2, 3, 4, 5, 6, 7, 8, 9, 10, 11, 12, 13, 14, 15, 16, 17, 18, 19, 20, 21] rfl (subM_all Z h q (rdS S (upd f 0 (nI x12)) (k + 2))) (fun v w hp => ?_)
              rcases hp with ⟨rfl, n13, x13, hn13, rfl⟩ | ⟨rfl, hz13, rfl⟩
              · skip
                obtain ⟨rfl, hd13, ed13, hx13, hl13⟩ := nd1 hn13
                refine g_eq (ws1 := wM Z h q (rdS S (upd (upd f 0 (nI x12)) 1 (nI x13)) (k + 3))) (st1 := [.int 1]) (putM_all Z h q (rdS S (upd f 0 (nI x12)) (k + 2)) _) rfl rfl ?_
                refine g_if_ne hX 506 dM_statement_501 (by decide) (fun c_501 => ?_) (fun c_501 => absurd c_501 (by decide))
                refine g_iload_n hX dM_statement_506 1 rfl ?_
                refine g_if_ne hX 512 dM_statement_507 (by decide) (fun c_507 => ?_) (fun c_507 => ?_)
                · refine g_aload_n hX dM_statement_512 0 rfl ?_
                  refine g_get hX 0 rfl rfl 19 (by decide) uu_M q_603 rfl rfl dM_statement_513 ?_
                  refine g_iconst (v := 0) hX dM_statement_516 (by decide) ?_
                  refine g_ald (v := (nI x12)) hX 14 rfl 0 (by omega) (by decide) (rfl) (by first | (rw [rdS_14]; rfl) | (rw [sw_ne _ _ _ (by decide), rdS_14]; rfl) | (rw [sw_ne _ _ _ (by decide), sw_ne _ _ _ (by decide), rdS_14]; rfl) | (rw [sw_ne _ _ _ (by decide), sw_ne _ _ _ (by decide), sw_ne _ _ _ (by decide), sw_ne _ _ _ (by decide), rdS_14]; rfl)) dM_statement_517 ?_
                  refine g_iconst (v := 1) hX dM_statement_518 (by decide) ?_
                  refine g_iconst (v := 5) hX dM_statement_519 (by decide) ?_
                  refine g_callS hX (con_M_within l Z (nI x12) 1 5) msM_within q_762 rfl (by decide) rfl (Nat.le_of_ble_eq_true rfl) dM_statement_520 [] rfl (rfl) (g_fn (ws1 := wM Z h q (rdS S (upd (upd f 0 (nI x12)) 1 (nI x13)) (k + 3))) (st1 := [.int (wthS (nI x12) 1 5)]) (rfl) rfl ?_)
                  refine g_if_eq hX 536 dM_statement_523 (by decide) (fun c_523 => ?_) (fun c_523 => ?_)
                  · refine g_iconst (v := 0) hX dM_statement_536 (by decide) ?_
                    exact r_iret hX hQ dM_statement_537 keysM (by have q523 := c_523; rw [wth15 (by omega)] at q523; have r523 := ite_n q523; have e9 := st_115 (S := S) hs480 ed12 ed13 hx12 hx13; rw [if_neg (by omega), if_neg (by omega)] at e9; exact stm_tell (by omega) (by omega) c_507 ((bs_115 hs480).trans ((bs_d (sh := 1) (r := 2) (i := 0) (by decide) hd12).trans ((bs_d (sh := 1) (r := 1) (i := 1) (by decide) hd13).trans (bs_f (by decide))))) e9.1 e9.2)
                  · refine g_aload_n hX dM_statement_526 0 rfl ?_
                    refine g_get hX 0 rfl rfl 19 (by decide) uu_M q_603 rfl rfl dM_statement_527 ?_
                    refine g_iconst (v := 1) hX dM_statement_530 (by decide) ?_
                    refine g_ald (v := (nI x13)) hX 14 rfl 1 (by omega) (by decide) (rfl) (by first | (rw [rdS_14]; rfl) | (rw [sw_ne _ _ _ (by decide), rdS_14]; rfl) | (rw [sw_ne _ _ _ (by decide), sw_ne _ _ _ (by decide), rdS_14]; rfl) | (rw [sw_ne _ _ _ (by decide), sw_ne _ _ _ (by decide), sw_ne _ _ _ (by decide), sw_ne _ _ _ (by decide), rdS_14]; rfl)) dM_statement_531 ?_
                    refine g_iconst (v := 5) hX dM_statement_532 (by decide) ?_
                    refine g_icmp_le hX 538 dM_statement_533 (by decide) (fun c_533 => ?_) (fun c_533 => ?_)
                    · refine g_aload_n hX dM_statement_538 0 rfl ?_
                      refine g_get hX 0 rfl rfl 14 (by decide) uu_M q_598 rfl rfl dM_statement_539 ?_
                      refine g_aload_n hX dM_statement_542 0 rfl ?_
                      refine g_get hX 0 rfl rfl 19 (by decide) uu_M q_603 rfl rfl dM_statement_543 ?_
                      refine g_iconst (v := 0) hX dM_statement_546 (by decide) ?_
                      refine g_ald (v := (nI x12)) hX 14 rfl 0 (by omega) (by decide) (rfl) (by first | (rw [rdS_14]; rfl) | (rw [sw_ne _ _ _ (by decide), rdS_14]; rfl) | (rw [sw_ne _ _ _ (by decide), sw_ne _ _ _ (by decide), rdS_14]; rfl) | (rw [sw_ne _ _ _ (by decide), sw_ne _ _ _ (by decide), sw_ne _ _ _ (by decide), sw_ne _ _ _ (by decide), rdS_14]; rfl)) dM_statement_547 ?_
                      refine g_aload_n hX dM_statement_548 0 rfl ?_
                      refine g_get hX 0 rfl rfl 19 (by decide) uu_M q_603 rfl rfl dM_statement_549 ?_
                      refine g_iconst (v := 1) hX dM_statement_552 (by decide) ?_
                      refine g_ald (v := (nI x13)) hX 14 rfl 1 (by omega) (by decide) (rfl) (by first | (rw [rdS_14]; rfl) | (rw [sw_ne _ _ _ (by decide), rdS_14]; rfl) | (rw [sw_ne _ _ _ (by decide), sw_ne _ _ _ (by decide), rdS_14]; rfl) | (rw [sw_ne _ _ _ (by decide), sw_ne _ _ _ (by decide), sw_ne _ _ _ (by decide), sw_ne _ _ _ (by decide), rdS_14]; rfl)) dM_statement_553 ?_
                      refine g_ast (ws1 := wM Z h q (sw (rdS S (upd (upd f 0 (nI x12)) 1 (nI x13)) (k + 3)) 11 x12 (nI x13))) hX 12 rfl x12 (by have q9 := c_523; rw [wth15 (by omega)] at q9; have r9 := ite_y q9; omega) (by decide) (rfl) dM_statement_554 (setM_S_11 Z h q (rdS S (upd (upd f 0 (nI x12)) 1 (nI x13)) (k + 3)) x12 (nI x13)) ?_
                      refine g_eq (ws1 := wM Z h q (rdS (sw S 11 x12 (nI x13)) (upd (upd f 0 (nI x12)) 1 (nI x13)) (k + 3))) (congrArg (wM Z h q) (rdS_other _ _ _ _ (by decide) (by omega))) rfl rfl ?_
                      refine g_iconst (v := 1) hX dM_statement_555 (by decide) ?_
                      exact r_iret hX hQ dM_statement_556 keysM (by have q523 := c_523; rw [wth15 (by omega)] at q523; have r523 := ite_y q523; have q533 := c_533; rw [show (5 : Int32) = nI 5 from rfl, le_n (by decide) (by omega)] at q533; have e9 := st_115 (S := S) hs480 ed12 ed13 hx12 hx13; rw [if_pos (by omega), if_pos (by omega)] at e9; exact stm_tell (by omega) (by omega) c_507 ((bs_115 hs480).trans ((bs_d (sh := 1) (r := 2) (i := 0) (by decide) hd12).trans ((bs_d (sh := 1) (r := 1) (i := 1) (by decide) hd13).trans (bs_f (by decide))))) e9.1 e9.2)
                    · refine g_iconst (v := 0) hX dM_statement_536 (by decide) ?_
                      exact r_iret hX hQ dM_statement_537 keysM (by have q523 := c_523; rw [wth15 (by omega)] at q523; have r523 := ite_y q523; have q533 := c_533; rw [show (5 : Int32) = nI 5 from rfl, le_n (by decide) (by omega)] at q533; have e9 := st_115 (S := S) hs480 ed12 ed13 hx12 hx13; rw [if_neg (by omega), if_neg (by omega)] at e9; exact stm_tell (by omega) (by omega) c_507 ((bs_115 hs480).trans ((bs_d (sh := 1) (r := 2) (i := 0) (by decide) hd12).trans ((bs_d (sh := 1) (r := 1) (i := 1) (by decide) hd13).trans (bs_f (by decide))))) e9.1 e9.2)
                · refine g_iconst (v := 1) hX dM_statement_510 (by decide) ?_
                  exact r_iret hX hQ dM_statement_511 keysM (stm_one (by omega) (by omega) c_507 ((bs_115 hs480).trans ((bs_d (sh := 1) (r := 2) (i := 0) (by decide) hd12).trans ((bs_d (sh := 1) (r := 1) (i := 1) (by decide) hd13).trans (bs_f (by decide))))))
              · skip
                refine g_eq (ws1 := wM Z h q (rdS S (upd f 0 (nI x12)) (k + 2))) (st1 := [.int 0]) (putM_all Z h q (rdS S (upd f 0 (nI x12)) (k + 2)) _) rfl rfl ?_
                refine g_if_ne hX 506 dM_statement_501 (by decide) (fun c_501 => absurd (rfl) c_501) (fun c_501 => ?_)
                refine g_iconst (v := (-1)) hX dM_statement_504 (by decide) ?_
                exact r_iret hX hQ dM_statement_505 keysM (stm_no (by omega) ((bs_115 hs480).trans ((bs_d (sh := 1) (r := 2) (i := 0) (by decide) hd12).trans (bs_dn (sh := 1) (r := 1) (i := 1) (by decide) hz13))))
            · skip
              refine g_eq (ws1 := wM Z h q (rdS S f (k + 1))) (st1 := [.int 0]) (putM_all Z h q (rdS S f (k + 1)) _) rfl rfl ?_
              refine g_if_eq hX 504 dM_statement_492 (by decide) (fun c_492 => ?_) (fun c_492 => absurd (rfl) c_492)
              refine g_iconst (v := (-1)) hX dM_statement_504 (by decide) ?_
              exact r_iret hX hQ dM_statement_505 keysM (stm_no (by omega) ((bs_115 hs480).trans (bs_dn (sh := 1) (r := 2) (i := 0) (by decide) hz12)))
          · skip
            refine g_eq (ws1 := wM Z h q (rdS S f k)) (st1 := [.int 0]) (putM_all Z h q (rdS S f k) _) rfl rfl ?_
            refine g_if_eq hX 504 dM_statement_483 (by decide) (fun c_483 => ?_) (fun c_483 => absurd (rfl) c_483)
            refine g_iconst (v := (-1)) hX dM_statement_504 (by decide) ?_
            exact r_iret hX hQ dM_statement_505 keysM (stm_no (by omega) (bs_else hs3 hs78 hs144 hs270 hs480))
