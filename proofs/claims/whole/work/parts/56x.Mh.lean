/-! the Model: a statement -/
set_option maxHeartbeats 4000000 in
set_option maxRecDepth 20000 in
theorem con_M_statement (l : Launch) (Z : ZZ) (h : Nat) (q : Nat → Nat) (S : St) (f : Nat → Int32) (k : Nat) (tl : Int32) (nT : Nat) (hN : S 12 4 = nI nT) (hN96 : nT ≤ 96) (htl : ¬ tl = 0 → 0 ≤ bs (TM S) nT k) (hk : k ≤ nT) (hB : ∀ j, j < nT → ∃ b, b < 256 ∧ S 13 j = nI b) (nP nL : Nat) (hP : S 12 1 = nI nP) (hP5 : nP ≤ 5) (hL : S 12 0 = nI nL) (hL7 : nL ≤ 7) : Con l Z yM_statement cM_statement 3 (some .int) 2 [.ref h, .int tl] (wM Z h q (rdS S f k)) (stmP Z h q S nT k tl) := by
  refine Con.of (by decide) (Nat.le_of_ble_eq_true rfl) (fun X hX hQ => ?_)
  show G X Z (wM Z h q (rdS S f k)) 0 [(0, .ref h), (1, .int tl)] []
  refine g_aload_n hX dM_statement_0 0 rfl ?_
  refine g_bipush (v := 114) hX dM_statement_1 (by decide) ?_
  refine g_callV hX (con_M_is l Z h q S f k 114 (by decide) nT hN hN96 ⟨by omega, hN96⟩) mvM_is q_688 rfl (by decide) 0 rfl rfl rfl (Nat.le_of_ble_eq_true rfl) dM_statement_3 [0, 1, 2, 3, 4, 5, 6, 7, 8, 9, 10, 11, 12, 13, 14, 15, 16, 17, 18, 19, 20, 21] rfl (subM_all Z h q (rdS S f k)) (fun v w hp => ?_)
  rcases hp with ⟨rfl, ⟨hs3, hl3⟩, rfl⟩ | ⟨rfl, hs3, rfl⟩
  · skip
    refine g_eq (ws1 := wM Z h q (rdS S f (k + 1))) (st1 := [.int 1]) (putM_all Z h q (rdS S f k) _) rfl rfl ?_
    refine g_if_eq hX 75 dM_statement_6 (by decide) (fun c_6 => absurd c_6 (by decide)) (fun c_6 => ?_)
    refine g_aload_n hX dM_statement_9 0 rfl ?_
    refine g_iconst (v := 0) hX dM_statement_10 (by decide) ?_
    refine g_iconst (v := 1) hX dM_statement_11 (by decide) ?_
    refine g_callV hX (con_M_number l Z h q S f (k + 1) 0 1 (by decide) (by decide) (by decide) nT hN hN96 (by omega)) mvM_number q_692 rfl (by decide) 0 rfl rfl rfl (Nat.le_of_ble_eq_true rfl) dM_statement_12 [0, 1, 2, 3, 4, 5, 6, 7, 8, 9, 10, 11, 12, 13, 14, 15, 16, 17, 18, 19, 20, 21] rfl (subM_all Z h q (rdS S f (k + 1))) (fun v w hp => ?_)
    rcases hp with ⟨rfl, n1, x1, hn1, rfl⟩ | ⟨rfl, hz1, rfl⟩
    · skip
      obtain ⟨rfl, hd1, ed1, hx1, hl1⟩ := nd1 hn1
      refine g_eq (ws1 := wM Z h q (rdS S (upd f 0 (nI x1)) (k + 2))) (st1 := [.int 1]) (putM_all Z h q (rdS S f (k + 1)) _) rfl rfl ?_
      refine g_if_eq hX 36 dM_statement_15 (by decide) (fun c_15 => absurd c_15 (by decide)) (fun c_15 => ?_)
      refine g_aload_n hX dM_statement_18 0 rfl ?_
      refine g_bipush (v := 44) hX dM_statement_19 (by decide) ?_
      refine g_callV hX (con_M_is l Z h q S (upd f 0 (nI x1)) (k + 2) 44 (by decide) nT hN hN96 ⟨by omega, hN96⟩) mvM_is q_688 rfl (by decide) 0 rfl rfl rfl (Nat.le_of_ble_eq_true rfl) dM_statement_21 [0, 1, 2, 3, 4, 5, 6, 7, 8, 9, 10, 11, 12, 13, 14, 15, 16, 17, 18, 19, 20, 21] rfl (subM_all Z h q (rdS S (upd f 0 (nI x1)) (k + 2))) (fun v w hp => ?_)
      rcases hp with ⟨rfl, ⟨hs21, hl21⟩, rfl⟩ | ⟨rfl, hs21, rfl⟩
      · skip
        refine g_eq (ws1 := wM Z h q (rdS S (upd f 0 (nI x1)) (k + 3))) (st1 := [.int 1]) (putM_all Z h q (rdS S (upd f 0 (nI x1)) (k + 2)) _) rfl rfl ?_
        refine g_if_eq hX 36 dM_statement_24 (by decide) (fun c_24 => absurd c_24 (by decide)) (fun c_24 => ?_)
        refine g_aload_n hX dM_statement_27 0 rfl ?_
        refine g_iconst (v := 1) hX dM_statement_28 (by decide) ?_
        refine g_iconst (v := 3) hX dM_statement_29 (by decide) ?_
        refine g_callV hX (con_M_number l Z h q S (upd f 0 (nI x1)) (k + 3) 1 3 (by decide) (by decide) (by decide) nT hN hN96 (by omega)) mvM_number q_692 rfl (by decide) 0 rfl rfl rfl (Nat.le_of_ble_eq_true rfl) dM_statement_30 [0, 1, 2, 3, 4, 5, 6, 7, 8, 9, 10, 11, 12, 13, 14, 15, 16, 17, 18, 19, 20, 21] rfl (subM_all Z h q (rdS S (upd f 0 (nI x1)) (k + 3))) (fun v w hp => ?_)
        rcases hp with ⟨rfl, n2, x2, hn2, rfl⟩ | ⟨rfl, hz2, rfl⟩
        · skip
          obtain ⟨em2, hx2, hb2, hl2, hg2⟩ := nd3 hn2
          refine g_eq (ws1 := wM Z h q (rdS S (upd (upd f 0 (nI x1)) 1 (nI x2)) (k + 3 + n2))) (st1 := [.int 1]) (putM_all Z h q (rdS S (upd f 0 (nI x1)) (k + 3)) _) rfl rfl ?_
          refine g_if_ne hX 38 dM_statement_33 (by decide) (fun c_33 => ?_) (fun c_33 => absurd c_33 (by decide))
          refine g_iload_n hX dM_statement_38 1 rfl ?_
          refine g_if_ne hX 44 dM_statement_39 (by decide) (fun c_39 => ?_) (fun c_39 => ?_)
          · refine g_aload_n hX dM_statement_44 0 rfl ?_
            refine g_get hX 0 rfl rfl 19 (by decide) uu_M q_603 rfl rfl dM_statement_45 ?_
            refine g_iconst (v := 0) hX dM_statement_48 (by decide) ?_
            refine g_ald (v := (nI x1)) hX 14 rfl 0 (by omega) (by decide) (rfl) (by rw [rdS_14]; rfl) dM_statement_49 ?_
            refine g_iconst (v := 5) hX dM_statement_50 (by decide) ?_
            refine g_icmp_le hX 56 dM_statement_51 (by decide) (fun c_51 => ?_) (fun c_51 => ?_)
            · refine g_aload_n hX dM_statement_56 0 rfl ?_
              refine g_get hX 0 rfl rfl 0 (by decide) uu_M q_584 rfl rfl dM_statement_57 ?_
              refine g_aload_n hX dM_statement_60 0 rfl ?_
              refine g_get hX 0 rfl rfl 19 (by decide) uu_M q_603 rfl rfl dM_statement_61 ?_
              refine g_iconst (v := 0) hX dM_statement_64 (by decide) ?_
              refine g_ald (v := (nI x1)) hX 14 rfl 0 (by omega) (by decide) (rfl) (by rw [rdS_14]; rfl) dM_statement_65 ?_
              refine g_aload_n hX dM_statement_66 0 rfl ?_
              refine g_get hX 0 rfl rfl 19 (by decide) uu_M q_603 rfl rfl dM_statement_67 ?_
              refine g_iconst (v := 1) hX dM_statement_70 (by decide) ?_
              refine g_ald (v := (nI x2)) hX 14 rfl 1 (by omega) (by decide) (rfl) (by rw [rdS_14]; rfl) dM_statement_71 ?_
              refine g_ast (ws1 := wM Z h q (sw (rdS S (upd (upd f 0 (nI x1)) 1 (nI x2)) (k + 3 + n2)) 0 x1 (nI x2))) hX 1 rfl x1 (by have q9 := c_51; rw [show (5 : Int32) = nI 5 from rfl, le_n (by decide) (by omega)] at q9; omega) (by decide) (rfl) dM_statement_72 (setM_S_0 Z h q (rdS S (upd (upd f 0 (nI x1)) 1 (nI x2)) (k + 3 + n2)) x1 (nI x2)) ?_
              refine g_eq (ws1 := wM Z h q (rdS (sw S 0 x1 (nI x2)) (upd (upd f 0 (nI x1)) 1 (nI x2)) (k + 3 + n2))) (congrArg (wM Z h q) (rdS_other _ _ _ _ (by decide) (by omega))) rfl rfl ?_
              refine g_iconst (v := 1) hX dM_statement_73 (by decide) ?_
              exact r_iret hX hQ dM_statement_74 keysM (by have q51 := c_51; rw [show (5 : Int32) = nI 5 from rfl, le_n (by decide) (by omega)] at q51; have e9 := st_114 (S := S) hs3 ed1 em2 hx1 hx2; rw [if_pos (by omega), if_pos (by omega)] at e9; exact stm_tell (by omega) (by omega) c_39 ((bs_114 hs3).trans ((bs_d (sh := 0) (r := 5) (i := 0) (by decide) hd1).trans ((bs_c (sh := 0) (r := 4) (i := 1) (by decide) hs21).trans (hb2)))) e9.1 e9.2)
            · refine g_iconst (v := 0) hX dM_statement_54 (by decide) ?_
              exact r_iret hX hQ dM_statement_55 keysM (by have q51 := c_51; rw [show (5 : Int32) = nI 5 from rfl, le_n (by decide) (by omega)] at q51; have e9 := st_114 (S := S) hs3 ed1 em2 hx1 hx2; rw [if_neg (by omega), if_neg (by omega)] at e9; exact stm_tell (by omega) (by omega) c_39 ((bs_114 hs3).trans ((bs_d (sh := 0) (r := 5) (i := 0) (by decide) hd1).trans ((bs_c (sh := 0) (r := 4) (i := 1) (by decide) hs21).trans (hb2)))) e9.1 e9.2)
          · refine g_iconst (v := 1) hX dM_statement_42 (by decide) ?_
            exact r_iret hX hQ dM_statement_43 keysM (stm_one (by omega) (by omega) c_39 ((bs_114 hs3).trans ((bs_d (sh := 0) (r := 5) (i := 0) (by decide) hd1).trans ((bs_c (sh := 0) (r := 4) (i := 1) (by decide) hs21).trans (hb2)))))
        · skip
          refine g_eq (ws1 := wM Z h q (rdS S (upd f 0 (nI x1)) (k + 3))) (st1 := [.int 0]) (putM_all Z h q (rdS S (upd f 0 (nI x1)) (k + 3)) _) rfl rfl ?_
          refine g_if_ne hX 38 dM_statement_33 (by decide) (fun c_33 => absurd (rfl) c_33) (fun c_33 => ?_)
          refine g_iconst (v := (-1)) hX dM_statement_36 (by decide) ?_
          exact r_iret hX hQ dM_statement_37 keysM (stm_no (by omega) ((bs_114 hs3).trans ((bs_d (sh := 0) (r := 5) (i := 0) (by decide) hd1).trans ((bs_c (sh := 0) (r := 4) (i := 1) (by decide) hs21).trans (bs_dn (sh := 0) (r := 3) (i := 2) (by decide) hz2)))))
      · skip
        refine g_eq (ws1 := wM Z h q (rdS S (upd f 0 (nI x1)) (k + 2))) (st1 := [.int 0]) (putM_all Z h q (rdS S (upd f 0 (nI x1)) (k + 2)) _) rfl rfl ?_
        refine g_if_eq hX 36 dM_statement_24 (by decide) (fun c_24 => ?_) (fun c_24 => absurd (rfl) c_24)
        refine g_iconst (v := (-1)) hX dM_statement_36 (by decide) ?_
        exact r_iret hX hQ dM_statement_37 keysM (stm_no (by omega) ((bs_114 hs3).trans ((bs_d (sh := 0) (r := 5) (i := 0) (by decide) hd1).trans (bs_cn (sh := 0) (r := 4) (i := 1) (by decide) hs21))))
    · skip
      refine g_eq (ws1 := wM Z h q (rdS S f (k + 1))) (st1 := [.int 0]) (putM_all Z h q (rdS S f (k + 1)) _) rfl rfl ?_
      refine g_if_eq hX 36 dM_statement_15 (by decide) (fun c_15 => ?_) (fun c_15 => absurd (rfl) c_15)
      refine g_iconst (v := (-1)) hX dM_statement_36 (by decide) ?_
      exact r_iret hX hQ dM_statement_37 keysM (stm_no (by omega) ((bs_114 hs3).trans (bs_dn (sh := 0) (r := 5) (i := 0) (by decide) hz1)))
  · skip
    refine g_eq (ws1 := wM Z h q (rdS S f k)) (st1 := [.int 0]) (putM_all Z h q (rdS S f k) _) rfl rfl ?_
    refine g_if_eq hX 75 dM_statement_6 (by decide) (fun c_6 => ?_) (fun c_6 => absurd (rfl) c_6)
    refine g_aload_n hX dM_statement_75 0 rfl ?_
    refine g_bipush (v := 107) hX dM_statement_76 (by decide) ?_
    refine g_callV hX (con_M_is l Z h q S f k 107 (by decide) nT hN hN96 ⟨by omega, hN96⟩) mvM_is q_688 rfl (by decide) 0 rfl rfl rfl (Nat.le_of_ble_eq_true rfl) dM_statement_78 [0, 1, 2, 3, 4, 5, 6, 7, 8, 9, 10, 11, 12, 13, 14, 15, 16, 17, 18, 19, 20, 21] rfl (subM_all Z h q (rdS S f k)) (fun v w hp => ?_)
    rcases hp with ⟨rfl, ⟨hs78, hl78⟩, rfl⟩ | ⟨rfl, hs78, rfl⟩
    · sorry
    · skip
      refine g_eq (ws1 := wM Z h q (rdS S f k)) (st1 := [.int 0]) (putM_all Z h q (rdS S f k) _) rfl rfl ?_
      refine g_if_eq hX 141 dM_statement_81 (by decide) (fun c_81 => ?_) (fun c_81 => absurd (rfl) c_81)
      refine g_aload_n hX dM_statement_141 0 rfl ?_
      refine g_bipush (v := 108) hX dM_statement_142 (by decide) ?_
      refine g_callV hX (con_M_is l Z h q S f k 108 (by decide) nT hN hN96 ⟨by omega, hN96⟩) mvM_is q_688 rfl (by decide) 0 rfl rfl rfl (Nat.le_of_ble_eq_true rfl) dM_statement_144 [0, 1, 2, 3, 4, 5, 6, 7, 8, 9, 10, 11, 12, 13, 14, 15, 16, 17, 18, 19, 20, 21] rfl (subM_all Z h q (rdS S f k)) (fun v w hp => ?_)
      rcases hp with ⟨rfl, ⟨hs144, hl144⟩, rfl⟩ | ⟨rfl, hs144, rfl⟩
      · sorry
      · skip
        refine g_eq (ws1 := wM Z h q (rdS S f k)) (st1 := [.int 0]) (putM_all Z h q (rdS S f k) _) rfl rfl ?_
        refine g_if_eq hX 267 dM_statement_147 (by decide) (fun c_147 => ?_) (fun c_147 => absurd (rfl) c_147)
        refine g_aload_n hX dM_statement_267 0 rfl ?_
        refine g_bipush (v := 112) hX dM_statement_268 (by decide) ?_
        refine g_callV hX (con_M_is l Z h q S f k 112 (by decide) nT hN hN96 ⟨by omega, hN96⟩) mvM_is q_688 rfl (by decide) 0 rfl rfl rfl (Nat.le_of_ble_eq_true rfl) dM_statement_270 [0, 1, 2, 3, 4, 5, 6, 7, 8, 9, 10, 11, 12, 13, 14, 15, 16, 17, 18, 19, 20, 21] rfl (subM_all Z h q (rdS S f k)) (fun v w hp => ?_)
        rcases hp with ⟨rfl, ⟨hs270, hl270⟩, rfl⟩ | ⟨rfl, hs270, rfl⟩
        · sorry
        · skip
          refine g_eq (ws1 := wM Z h q (rdS S f k)) (st1 := [.int 0]) (putM_all Z h q (rdS S f k) _) rfl rfl ?_
          refine g_if_eq hX 477 dM_statement_273 (by decide) (fun c_273 => ?_) (fun c_273 => absurd (rfl) c_273)
          refine g_aload_n hX dM_statement_477 0 rfl ?_
          refine g_bipush (v := 115) hX dM_statement_478 (by decide) ?_
          refine g_callV hX (con_M_is l Z h q S f k 115 (by decide) nT hN hN96 ⟨by omega, hN96⟩) mvM_is q_688 rfl (by decide) 0 rfl rfl rfl (Nat.le_of_ble_eq_true rfl) dM_statement_480 [0, 1, 2, 3, 4, 5, 6, 7, 8, 9, 10, 11, 12, 13, 14, 15, 16, 17, 18, 19, 20, 21] rfl (subM_all Z h q (rdS S f k)) (fun v w hp => ?_)
          rcases hp with ⟨rfl, ⟨hs480, hl480⟩, rfl⟩ | ⟨rfl, hs480, rfl⟩
          · sorry
          · skip
            refine g_eq (ws1 := wM Z h q (rdS S f k)) (st1 := [.int 0]) (putM_all Z h q (rdS S f k) _) rfl rfl ?_
            refine g_if_eq hX 504 dM_statement_483 (by decide) (fun c_483 => ?_) (fun c_483 => absurd (rfl) c_483)
            refine g_iconst (v := (-1)) hX dM_statement_504 (by decide) ?_
            exact r_iret hX hQ dM_statement_505 keysM (stm_no (by omega) (bs_else hs3 hs78 hs144 hs270 hs480))
