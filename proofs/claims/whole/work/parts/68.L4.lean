/-! each of the law's cases, 2 -/
set_option maxHeartbeats 1000000 in
theorem law_farthest {X : XX} {Z : ZZ} {l : Launch} {a : Nat → Nat → Nat} {b h k L : Nat} {q : Nat → Nat} {xs : Nat → Int32} (hX : Okk X Z code 4 "NeverBothDoorsLaw" l 11) (hW : LawX X b L xs) (hL : L ≤ 1536) (hk : 3 * k + 2 < L) (ih : ∀ Sn Sm Sk T V U S, Rel Sn Sk T U S → G X Z (wX Z a Sn Sm Sk T V U ++ wM Z h q S) 824 (lvL a b h k) []) {Sn Sm Sk T V U S : St} (hr : Rel Sn Sk T U S) : G X Z (wX Z a Sn Sm Sk T V U ++ wM Z h q S) 542 (lvL a b h k) [] := by
  obtain ⟨nP, nL, o, t, c, u, hB⟩ := hr.1
  obtain ⟨nT, hTI⟩ := hr.2.1
  obtain ⟨nR, hRI⟩ := hr.2.2.1
  have hB0 := hB
  obtain ⟨hP, hP5, hLn, hL7, hLk, hc1, h46, hV, hVa, hu, hu5, hu6, hE⟩ := hB0
  clear h46 hVa hu6
  have hX2 := e_farthest hr hB (xs (3 * k + 1))
  refine g_aload_n hX dL_law_542 1 rfl ?_
  refine law_arg hX hW hL 1 (by omega) rfl dL_law_543 dL_law_544 dL_law_545 dL_law_546 dL_law_547 ?_
  refine law_callX hX (con_X_farthest l Z a Sn Sm Sk T V U (xs (3 * k + 1)) nL o t c hLn hL7 hLk) mvX_farthest q_437 rfl (by decide) rfl rfl (Nat.le_of_ble_eq_true rfl) dL_law_548 (fun Sm1 V1 => ?_)
  refine g_aload_n hX dL_law_551 2 rfl ?_
  refine law_arg hX hW hL 1 (by omega) rfl dL_law_552 dL_law_553 dL_law_554 dL_law_555 dL_law_556 ?_
  refine law_callM hX (con_M_farthest l Z h q S (xs (3 * k + 1)) nL ((hE.2.2 0 (by omega)).trans hLn) (Nat.le_trans hL7 (by decide)) o t c (hLk.eq9 hE) hc1) mvM_farthest q_863 rfl (by decide) rfl rfl (Nat.le_of_ble_eq_true rfl) dL_law_557 (fun S2 hs => ?_)
  exact law_end hX dL_law_560 rfl hX2.1 (ih _ _ _ _ _ _ _ (hX2.2.scr (by unfold xf_farthest; (repeat' split) <;> exact hLn) (Nat.le_trans hL7 (by decide)) hs))
set_option maxHeartbeats 1000000 in
theorem law_more {X : XX} {Z : ZZ} {l : Launch} {a : Nat → Nat → Nat} {b h k L : Nat} {q : Nat → Nat} {xs : Nat → Int32} (hX : Okk X Z code 4 "NeverBothDoorsLaw" l 11) (hW : LawX X b L xs) (hL : L ≤ 1536) (hk : 3 * k + 2 < L) (ih : ∀ Sn Sm Sk T V U S, Rel Sn Sk T U S → G X Z (wX Z a Sn Sm Sk T V U ++ wM Z h q S) 824 (lvL a b h k) []) {Sn Sm Sk T V U S : St} (hr : Rel Sn Sk T U S) : G X Z (wX Z a Sn Sm Sk T V U ++ wM Z h q S) 565 (lvL a b h k) [] := by
  obtain ⟨nP, nL, o, t, c, u, hB⟩ := hr.1
  obtain ⟨nT, hTI⟩ := hr.2.1
  obtain ⟨nR, hRI⟩ := hr.2.2.1
  have hB0 := hB
  obtain ⟨hP, hP5, hLn, hL7, hLk, hc1, h46, hV, hVa, hu, hu5, hu6, hE⟩ := hB0
  clear h46 hVa hu6
  have hX2 := e_more hr hB (xs (3 * k + 1))
  refine g_aload_n hX dL_law_565 1 rfl ?_
  refine law_arg hX hW hL 1 (by omega) rfl dL_law_566 dL_law_567 dL_law_568 dL_law_569 dL_law_570 ?_
  refine law_callX hX (con_X_more l Z a Sn Sm Sk T V U (xs (3 * k + 1)) nL o t c hLn hL7 hLk) mvX_more q_445 rfl (by decide) rfl rfl (Nat.le_of_ble_eq_true rfl) dL_law_571 (fun Sm1 V1 => ?_)
  refine g_aload_n hX dL_law_574 2 rfl ?_
  refine law_arg hX hW hL 1 (by omega) rfl dL_law_575 dL_law_576 dL_law_577 dL_law_578 dL_law_579 ?_
  refine law_callM hX (con_M_more l Z h q S (xs (3 * k + 1)) nL ((hE.2.2 0 (by omega)).trans hLn) hL7 o t c (hLk.eq9 hE) hc1) mvM_more q_867 rfl (by decide) rfl rfl (Nat.le_of_ble_eq_true rfl) dL_law_580 (fun S2 hs => ?_)
  exact law_end hX dL_law_583 rfl hX2.1 (ih _ _ _ _ _ _ _ (hX2.2.scr (by unfold xf_more; (repeat' split) <;> exact hLn) (Nat.le_trans hL7 (by decide)) hs))
set_option maxHeartbeats 1000000 in
theorem law_errands {X : XX} {Z : ZZ} {l : Launch} {a : Nat → Nat → Nat} {b h k L : Nat} {q : Nat → Nat} {xs : Nat → Int32} (hX : Okk X Z code 4 "NeverBothDoorsLaw" l 11) (hW : LawX X b L xs) (hL : L ≤ 1536) (hk : 3 * k + 2 < L) (ih : ∀ Sn Sm Sk T V U S, Rel Sn Sk T U S → G X Z (wX Z a Sn Sm Sk T V U ++ wM Z h q S) 824 (lvL a b h k) []) {Sn Sm Sk T V U S : St} (hr : Rel Sn Sk T U S) : G X Z (wX Z a Sn Sm Sk T V U ++ wM Z h q S) 588 (lvL a b h k) [] := by
  obtain ⟨nP, nL, o, t, c, u, hB⟩ := hr.1
  obtain ⟨nT, hTI⟩ := hr.2.1
  obtain ⟨nR, hRI⟩ := hr.2.2.1
  have hB0 := hB
  obtain ⟨hP, hP5, hLn, hL7, hLk, hc1, h46, hV, hVa, hu, hu5, hu6, hE⟩ := hB0
  clear h46 hVa hu6
  have hX2 := e_errands hr hB (xs (3 * k + 1)) (xs (3 * k + 2))
  refine g_aload_n hX dL_law_588 1 rfl ?_
  refine law_arg hX hW hL 1 (by omega) rfl dL_law_589 dL_law_590 dL_law_591 dL_law_592 dL_law_593 ?_
  refine law_arg hX hW hL 2 (by omega) rfl dL_law_594 dL_law_595 dL_law_596 dL_law_597 dL_law_598 ?_
  refine law_callX hX (con_X_errands l Z a Sn Sm Sk T V U (xs (3 * k + 1)) (xs (3 * k + 2)) nL o t c hLn hL7 hLk) mvX_errands q_462 rfl (by decide) rfl rfl (Nat.le_of_ble_eq_true rfl) dL_law_599 (fun Sm1 V1 => ?_)
  refine g_aload_n hX dL_law_602 2 rfl ?_
  refine law_arg hX hW hL 1 (by omega) rfl dL_law_603 dL_law_604 dL_law_605 dL_law_606 dL_law_607 ?_
  refine law_arg hX hW hL 2 (by omega) rfl dL_law_608 dL_law_609 dL_law_610 dL_law_611 dL_law_612 ?_
  refine law_callM hX (con_M_errands l Z h q S (xs (3 * k + 1)) (xs (3 * k + 2)) nL ((hE.2.2 0 (by omega)).trans hLn) (Nat.le_trans hL7 (by decide)) o t c (hLk.eq9 hE) hc1) mvM_errands q_871 rfl (by decide) rfl rfl (Nat.le_of_ble_eq_true rfl) dL_law_613 (fun S2 hs => ?_)
  exact law_end hX dL_law_616 rfl hX2.1 (ih _ _ _ _ _ _ _ (hX2.2.scr (by unfold xf_errands; (repeat' split) <;> exact hLn) (Nat.le_trans hL7 (by decide)) hs))
set_option maxHeartbeats 1000000 in
theorem law_fitted {X : XX} {Z : ZZ} {l : Launch} {a : Nat → Nat → Nat} {b h k L : Nat} {q : Nat → Nat} {xs : Nat → Int32} (hX : Okk X Z code 4 "NeverBothDoorsLaw" l 11) (hW : LawX X b L xs) (hL : L ≤ 1536) (hk : 3 * k + 2 < L) (ih : ∀ Sn Sm Sk T V U S, Rel Sn Sk T U S → G X Z (wX Z a Sn Sm Sk T V U ++ wM Z h q S) 824 (lvL a b h k) []) {Sn Sm Sk T V U S : St} (hr : Rel Sn Sk T U S) : G X Z (wX Z a Sn Sm Sk T V U ++ wM Z h q S) 621 (lvL a b h k) [] := by
  obtain ⟨nP, nL, o, t, c, u, hB⟩ := hr.1
  obtain ⟨nT, hTI⟩ := hr.2.1
  obtain ⟨nR, hRI⟩ := hr.2.2.1
  have hB0 := hB
  obtain ⟨hP, hP5, hLn, hL7, hLk, hc1, h46, hV, hVa, hu, hu5, hu6, hE⟩ := hB0
  clear h46 hVa hu6
  have hX2 := e_fitted hr hB
  refine g_aload_n hX dL_law_621 1 rfl ?_
  refine law_callX hX (con_X_fitted l Z a Sn Sm Sk T V U nP nL hP hP5 hLn hL7) mvX_fitted q_475 rfl (by decide) rfl rfl (Nat.le_of_ble_eq_true rfl) dL_law_622 (fun Sm1 V1 => ?_)
  refine g_aload_n hX dL_law_625 2 rfl ?_
  refine law_callM hX (con_M_fitted l Z h q S nP ((hE.2.2 1 (by omega)).trans hP) hP5 8 u (fun f f1 f2 => by rw [hE.1 11 (by omega)]; exact hu f f1 f2) hu5) mvM_fitted q_878 rfl (by decide) rfl rfl (Nat.le_of_ble_eq_true rfl) dL_law_626 (fun S2 hs => ?_)
  exact law_end hX dL_law_629 rfl hX2.1 (ih _ _ _ _ _ _ _ (hX2.2.scr8 hs))
set_option maxHeartbeats 1000000 in
theorem law_bare {X : XX} {Z : ZZ} {l : Launch} {a : Nat → Nat → Nat} {b h k L : Nat} {q : Nat → Nat} {xs : Nat → Int32} (hX : Okk X Z code 4 "NeverBothDoorsLaw" l 11) (hW : LawX X b L xs) (hL : L ≤ 1536) (hk : 3 * k + 2 < L) (ih : ∀ Sn Sm Sk T V U S, Rel Sn Sk T U S → G X Z (wX Z a Sn Sm Sk T V U ++ wM Z h q S) 824 (lvL a b h k) []) {Sn Sm Sk T V U S : St} (hr : Rel Sn Sk T U S) : G X Z (wX Z a Sn Sm Sk T V U ++ wM Z h q S) 634 (lvL a b h k) [] := by
  obtain ⟨nP, nL, o, t, c, u, hB⟩ := hr.1
  obtain ⟨nT, hTI⟩ := hr.2.1
  obtain ⟨nR, hRI⟩ := hr.2.2.1
  have hB0 := hB
  obtain ⟨hP, hP5, hLn, hL7, hLk, hc1, h46, hV, hVa, hu, hu5, hu6, hE⟩ := hB0
  clear h46 hVa hu6
  have hX2 := e_bare hr hB
  refine g_aload_n hX dL_law_634 1 rfl ?_
  refine law_callX hX (con_X_bare l Z a Sn Sm Sk T V U nP nL hP hP5 hLn hL7) mvX_bare q_498 rfl (by decide) rfl rfl (Nat.le_of_ble_eq_true rfl) dL_law_635 (fun Sm1 V1 => ?_)
  refine g_aload_n hX dL_law_638 2 rfl ?_
  refine law_callM hX (con_M_bare l Z h q S nP ((hE.2.2 1 (by omega)).trans hP) hP5 8 u (fun f f1 f2 => by rw [hE.1 11 (by omega)]; exact hu f f1 f2) hu5) mvM_bare q_891 rfl (by decide) rfl rfl (Nat.le_of_ble_eq_true rfl) dL_law_639 (fun S2 hs => ?_)
  exact law_end hX dL_law_642 rfl hX2.1 (ih _ _ _ _ _ _ _ (hX2.2.scr8 hs))
set_option maxHeartbeats 1000000 in
theorem law_row {X : XX} {Z : ZZ} {l : Launch} {a : Nat → Nat → Nat} {b h k L : Nat} {q : Nat → Nat} {xs : Nat → Int32} (hX : Okk X Z code 4 "NeverBothDoorsLaw" l 11) (hW : LawX X b L xs) (hL : L ≤ 1536) (hk : 3 * k + 2 < L) (ih : ∀ Sn Sm Sk T V U S, Rel Sn Sk T U S → G X Z (wX Z a Sn Sm Sk T V U ++ wM Z h q S) 824 (lvL a b h k) []) {Sn Sm Sk T V U S : St} (hr : Rel Sn Sk T U S) : G X Z (wX Z a Sn Sm Sk T V U ++ wM Z h q S) 647 (lvL a b h k) [] := by
  obtain ⟨nP, nL, o, t, c, u, hB⟩ := hr.1
  obtain ⟨nT, hTI⟩ := hr.2.1
  obtain ⟨nR, hRI⟩ := hr.2.2.1
  have hB0 := hB
  obtain ⟨hP, hP5, hLn, hL7, hLk, hc1, h46, hV, hVa, hu, hu5, hu6, hE⟩ := hB0
  clear h46 hVa hu6
  have hX2 := e_row hr hB hRI (xs (3 * k + 1))
  refine g_aload_n hX dL_law_647 1 rfl ?_
  refine law_arg hX hW hL 1 (by omega) rfl dL_law_648 dL_law_649 dL_law_650 dL_law_651 dL_law_652 ?_
  refine law_callX hX (con_X_row l Z a Sn Sm Sk T V U (xs (3 * k + 1)) nR hRI.1 hRI.2.1) mvX_row q_502 rfl (by decide) rfl rfl (Nat.le_of_ble_eq_true rfl) dL_law_653 (fun Sm1 V1 => ?_)
  refine g_aload_n hX dL_law_656 2 rfl ?_
  refine law_arg hX hW hL 1 (by omega) rfl dL_law_657 dL_law_658 dL_law_659 dL_law_660 dL_law_661 ?_
  refine law_callP hX (con_M_row l Z h q S (xs (3 * k + 1)) nR hRI.2.2.1 hRI.2.1) mvM_row q_892 rfl (by decide) rfl rfl (Nat.le_of_ble_eq_true rfl) dL_law_662 ?_
  exact law_end hX dL_law_665 rfl hX2.1 (ih _ _ _ _ _ _ _ hX2.2)
set_option maxHeartbeats 1000000 in
theorem law_gauges {X : XX} {Z : ZZ} {l : Launch} {a : Nat → Nat → Nat} {b h k L : Nat} {q : Nat → Nat} {xs : Nat → Int32} (hX : Okk X Z code 4 "NeverBothDoorsLaw" l 11) (hW : LawX X b L xs) (hL : L ≤ 1536) (hk : 3 * k + 2 < L) (ih : ∀ Sn Sm Sk T V U S, Rel Sn Sk T U S → G X Z (wX Z a Sn Sm Sk T V U ++ wM Z h q S) 824 (lvL a b h k) []) {Sn Sm Sk T V U S : St} (hr : Rel Sn Sk T U S) : G X Z (wX Z a Sn Sm Sk T V U ++ wM Z h q S) 670 (lvL a b h k) [] := by
  obtain ⟨nP, nL, o, t, c, u, hB⟩ := hr.1
  obtain ⟨nT, hTI⟩ := hr.2.1
  obtain ⟨nR, hRI⟩ := hr.2.2.1
  have hB0 := hB
  obtain ⟨hP, hP5, hLn, hL7, hLk, hc1, h46, hV, hVa, hu, hu5, hu6, hE⟩ := hB0
  clear h46 hVa hu6
  have hX2 := e_gauges hr hB hRI (xs (3 * k + 1)) (xs (3 * k + 2))
  refine g_aload_n hX dL_law_670 1 rfl ?_
  refine law_arg hX hW hL 1 (by omega) rfl dL_law_671 dL_law_672 dL_law_673 dL_law_674 dL_law_675 ?_
  refine law_arg hX hW hL 2 (by omega) rfl dL_law_676 dL_law_677 dL_law_678 dL_law_679 dL_law_680 ?_
  refine law_callX hX (con_X_gauges l Z a Sn Sm Sk T V U (xs (3 * k + 1)) (xs (3 * k + 2)) nP hP hP5 nR hRI.1 hRI.2.1) mvX_gauges q_506 rfl (by decide) rfl rfl (Nat.le_of_ble_eq_true rfl) dL_law_681 (fun Sm1 V1 => ?_)
  refine g_aload_n hX dL_law_684 2 rfl ?_
  refine law_arg hX hW hL 1 (by omega) rfl dL_law_685 dL_law_686 dL_law_687 dL_law_688 dL_law_689 ?_
  refine law_arg hX hW hL 2 (by omega) rfl dL_law_690 dL_law_691 dL_law_692 dL_law_693 dL_law_694 ?_
  refine law_callM hX (con_M_gauges l Z h q S (xs (3 * k + 1)) (xs (3 * k + 2)) nP ((hE.2.2 1 (by omega)).trans hP) hP5 8 (hV.eq9 hE) nR hRI.2.2.1 hRI.2.1) mvM_gauges q_896 rfl (by decide) rfl rfl (Nat.le_of_ble_eq_true rfl) dL_law_695 (fun S2 hs => ?_)
  exact law_end hX dL_law_698 rfl hX2.1 (ih _ _ _ _ _ _ _ (hX2.2.scr8 hs))
set_option maxHeartbeats 1000000 in
theorem law_judge {X : XX} {Z : ZZ} {l : Launch} {a : Nat → Nat → Nat} {b h k L : Nat} {q : Nat → Nat} {xs : Nat → Int32} (hX : Okk X Z code 4 "NeverBothDoorsLaw" l 11) (hW : LawX X b L xs) (hL : L ≤ 1536) (hk : 3 * k + 2 < L) (ih : ∀ Sn Sm Sk T V U S, Rel Sn Sk T U S → G X Z (wX Z a Sn Sm Sk T V U ++ wM Z h q S) 824 (lvL a b h k) []) {Sn Sm Sk T V U S : St} (hr : Rel Sn Sk T U S) : G X Z (wX Z a Sn Sm Sk T V U ++ wM Z h q S) 703 (lvL a b h k) [] := by
  obtain ⟨nP, nL, o, t, c, u, hB⟩ := hr.1
  obtain ⟨nT, hTI⟩ := hr.2.1
  obtain ⟨nR, hRI⟩ := hr.2.2.1
  have hB0 := hB
  obtain ⟨hP, hP5, hLn, hL7, hLk, hc1, h46, hV, hVa, hu, hu5, hu6, hE⟩ := hB0
  clear h46 hVa hu6
  have hX2 := e_judge hr hB hRI
  refine g_aload_n hX dL_law_703 1 rfl ?_
  refine law_callX hX (con_X_judge l Z a Sn Sm Sk T V U nP nL hP hP5 hLn hL7 (fun g hg => ⟨c g, (hLk g hg).2.2.2.2.2.2, (hLk g hg).2.2.1⟩) nR hRI.1 hRI.2.1) mvX_judge q_530 rfl (by decide) rfl rfl (Nat.le_of_ble_eq_true rfl) dL_law_704 (fun Sm1 V1 => ?_)
  refine g_aload_n hX dL_law_707 2 rfl ?_
  refine law_callM hX (con_M_judge l Z h q S nP ((hE.2.2 1 (by omega)).trans hP) hP5 nL ((hE.2.2 0 (by omega)).trans hLn) (Nat.le_trans hL7 (by decide)) o t c (hLk.eq9 hE) (hV.eq9 hE) nR hRI.2.2.1 hRI.2.1) mvM_judge q_904 rfl (by decide) rfl rfl (Nat.le_of_ble_eq_true rfl) dL_law_708 (fun S2 hs => ?_)
  exact law_end hX dL_law_711 rfl hX2.1 (ih _ _ _ _ _ _ _ (hX2.2.scr (by unfold xf_judge; (repeat' split) <;> exact hLn) (Nat.le_trans hL7 (by decide)) hs))
set_option maxHeartbeats 1000000 in
theorem law_ends {X : XX} {Z : ZZ} {l : Launch} {a : Nat → Nat → Nat} {b h k L : Nat} {q : Nat → Nat} {xs : Nat → Int32} (hX : Okk X Z code 4 "NeverBothDoorsLaw" l 11) (hW : LawX X b L xs) (hL : L ≤ 1536) (hk : 3 * k + 2 < L) (ih : ∀ Sn Sm Sk T V U S, Rel Sn Sk T U S → G X Z (wX Z a Sn Sm Sk T V U ++ wM Z h q S) 824 (lvL a b h k) []) {Sn Sm Sk T V U S : St} (hr : Rel Sn Sk T U S) : G X Z (wX Z a Sn Sm Sk T V U ++ wM Z h q S) 716 (lvL a b h k) [] := by
  obtain ⟨nP, nL, o, t, c, u, hB⟩ := hr.1
  obtain ⟨nT, hTI⟩ := hr.2.1
  obtain ⟨nR, hRI⟩ := hr.2.2.1
  have hB0 := hB
  obtain ⟨hP, hP5, hLn, hL7, hLk, hc1, h46, hV, hVa, hu, hu5, hu6, hE⟩ := hB0
  clear h46 hVa hu6
  have hX2 := e_ends hr hB hRI
  refine g_aload_n hX dL_law_716 1 rfl ?_
  refine law_callX hX (con_X_ends l Z a Sn Sm Sk T V U nP nL hP hP5 hLn hL7 (fun g hg => ⟨c g, (hLk g hg).2.2.2.2.2.2, (hLk g hg).2.2.1⟩) nR hRI.1 hRI.2.1) mvX_ends q_538 rfl (by decide) rfl rfl (Nat.le_of_ble_eq_true rfl) dL_law_717 (fun Sm1 V1 => ?_)
  refine g_aload_n hX dL_law_720 2 rfl ?_
  refine law_callM hX (con_M_ends l Z h q S nP ((hE.2.2 1 (by omega)).trans hP) hP5 nL ((hE.2.2 0 (by omega)).trans hLn) (Nat.le_trans hL7 (by decide)) o t c (hLk.eq9 hE) (hV.eq9 hE) nR hRI.2.2.1 hRI.2.1) mvM_ends q_912 rfl (by decide) rfl rfl (Nat.le_of_ble_eq_true rfl) dL_law_721 (fun S2 hs => ?_)
  exact law_end hX dL_law_724 rfl hX2.1 (ih _ _ _ _ _ _ _ (hX2.2.scr (by unfold xf_ends; (repeat' split) <;> exact hLn) (Nat.le_trans hL7 (by decide)) hs))
set_option maxHeartbeats 1000000 in
theorem law_clear {X : XX} {Z : ZZ} {l : Launch} {a : Nat → Nat → Nat} {b h k L : Nat} {q : Nat → Nat} {xs : Nat → Int32} (hX : Okk X Z code 4 "NeverBothDoorsLaw" l 11) (hW : LawX X b L xs) (hL : L ≤ 1536) (hk : 3 * k + 2 < L) (ih : ∀ Sn Sm Sk T V U S, Rel Sn Sk T U S → G X Z (wX Z a Sn Sm Sk T V U ++ wM Z h q S) 824 (lvL a b h k) []) {Sn Sm Sk T V U S : St} (hr : Rel Sn Sk T U S) : G X Z (wX Z a Sn Sm Sk T V U ++ wM Z h q S) 729 (lvL a b h k) [] := by
  obtain ⟨nP, nL, o, t, c, u, hB⟩ := hr.1
  obtain ⟨nT, hTI⟩ := hr.2.1
  obtain ⟨nR, hRI⟩ := hr.2.2.1
  have hB0 := hB
  obtain ⟨hP, hP5, hLn, hL7, hLk, hc1, h46, hV, hVa, hu, hu5, hu6, hE⟩ := hB0
  clear h46 hVa hu6
  have hX2 := e_clear hr hB
  refine g_aload_n hX dL_law_729 1 rfl ?_
  refine law_callX hX (con_X_clear l Z a Sn Sm Sk T V U ) mvX_clear q_542 rfl (by decide) rfl rfl (Nat.le_of_ble_eq_true rfl) dL_law_730 (fun Sm1 V1 => ?_)
  refine g_aload_n hX dL_law_733 2 rfl ?_
  refine law_callP hX (con_M_clear l Z h q S ) mvM_clear q_916 rfl (by decide) rfl rfl (Nat.le_of_ble_eq_true rfl) dL_law_734 ?_
  exact law_end hX dL_law_737 rfl hX2.1 (ih _ _ _ _ _ _ _ hX2.2)
set_option maxHeartbeats 1000000 in
theorem law_seeds {X : XX} {Z : ZZ} {l : Launch} {a : Nat → Nat → Nat} {b h k L : Nat} {q : Nat → Nat} {xs : Nat → Int32} (hX : Okk X Z code 4 "NeverBothDoorsLaw" l 11) (hW : LawX X b L xs) (hL : L ≤ 1536) (hk : 3 * k + 2 < L) (ih : ∀ Sn Sm Sk T V U S, Rel Sn Sk T U S → G X Z (wX Z a Sn Sm Sk T V U ++ wM Z h q S) 824 (lvL a b h k) []) {Sn Sm Sk T V U S : St} (hr : Rel Sn Sk T U S) : G X Z (wX Z a Sn Sm Sk T V U ++ wM Z h q S) 742 (lvL a b h k) [] := by
  obtain ⟨nP, nL, o, t, c, u, hB⟩ := hr.1
  obtain ⟨nT, hTI⟩ := hr.2.1
  obtain ⟨nR, hRI⟩ := hr.2.2.1
  have hB0 := hB
  obtain ⟨hP, hP5, hLn, hL7, hLk, hc1, h46, hV, hVa, hu, hu5, hu6, hE⟩ := hB0
  clear h46 hVa hu6
  have hX2 := e_seeds hr hB (xs (3 * k + 1)) (xs (3 * k + 2))
  refine g_aload_n hX dL_law_742 1 rfl ?_
  refine law_arg hX hW hL 1 (by omega) rfl dL_law_743 dL_law_744 dL_law_745 dL_law_746 dL_law_747 ?_
  refine law_arg hX hW hL 2 (by omega) rfl dL_law_748 dL_law_749 dL_law_750 dL_law_751 dL_law_752 ?_
  refine law_callX hX (con_X_seeds l Z a Sn Sm Sk T V U (xs (3 * k + 1)) (xs (3 * k + 2)) nP nL hP hP5 hLn hL7 (fun g hg => ⟨c g, (hLk g hg).2.2.2.2.2.2, (hLk g hg).2.2.1⟩)) mvX_seeds q_546 rfl (by decide) rfl rfl (Nat.le_of_ble_eq_true rfl) dL_law_753 (fun Sm1 V1 => ?_)
  refine g_aload_n hX dL_law_756 2 rfl ?_
  refine law_arg hX hW hL 1 (by omega) rfl dL_law_757 dL_law_758 dL_law_759 dL_law_760 dL_law_761 ?_
  refine law_arg hX hW hL 2 (by omega) rfl dL_law_762 dL_law_763 dL_law_764 dL_law_765 dL_law_766 ?_
  refine law_callM hX (con_M_seeds l Z h q S (xs (3 * k + 1)) (xs (3 * k + 2)) nP ((hE.2.2 1 (by omega)).trans hP) hP5 nL ((hE.2.2 0 (by omega)).trans hLn) (Nat.le_trans hL7 (by decide)) o t c (hLk.eq9 hE) (hV.eq9 hE)) mvM_seeds q_920 rfl (by decide) rfl rfl (Nat.le_of_ble_eq_true rfl) dL_law_767 (fun S2 hs => ?_)
  exact law_end hX dL_law_770 rfl hX2.1 (ih _ _ _ _ _ _ _ (hX2.2.scr (by unfold xf_seeds; (repeat' split) <;> exact hLn) (Nat.le_trans hL7 (by decide)) hs))
set_option maxHeartbeats 1000000 in
theorem law_image {X : XX} {Z : ZZ} {l : Launch} {a : Nat → Nat → Nat} {b h k L : Nat} {q : Nat → Nat} {xs : Nat → Int32} (hX : Okk X Z code 4 "NeverBothDoorsLaw" l 11) (hW : LawX X b L xs) (hL : L ≤ 1536) (hk : 3 * k + 2 < L) (ih : ∀ Sn Sm Sk T V U S, Rel Sn Sk T U S → G X Z (wX Z a Sn Sm Sk T V U ++ wM Z h q S) 824 (lvL a b h k) []) {Sn Sm Sk T V U S : St} (hr : Rel Sn Sk T U S) : G X Z (wX Z a Sn Sm Sk T V U ++ wM Z h q S) 775 (lvL a b h k) [] := by
  obtain ⟨nP, nL, o, t, c, u, hB⟩ := hr.1
  obtain ⟨nT, hTI⟩ := hr.2.1
  obtain ⟨nR, hRI⟩ := hr.2.2.1
  have hB0 := hB
  obtain ⟨hP, hP5, hLn, hL7, hLk, hc1, h46, hV, hVa, hu, hu5, hu6, hE⟩ := hB0
  clear h46 hVa hu6
  have hX2 := e_image hr hB
  refine g_aload_n hX dL_law_775 1 rfl ?_
  refine law_callX hX (con_X_image l Z a Sn Sm Sk T V U ) mvX_image q_563 rfl (by decide) rfl rfl (Nat.le_of_ble_eq_true rfl) dL_law_776 (fun Sm1 V1 => ?_)
  refine g_aload_n hX dL_law_779 2 rfl ?_
  refine law_callP hX (con_M_image l Z h q S ) mvM_image q_927 rfl (by decide) rfl rfl (Nat.le_of_ble_eq_true rfl) dL_law_780 ?_
  exact law_end hX dL_law_783 rfl hX2.1 (ih _ _ _ _ _ _ _ hX2.2)
set_option maxHeartbeats 1000000 in
theorem law_on {X : XX} {Z : ZZ} {l : Launch} {a : Nat → Nat → Nat} {b h k L : Nat} {q : Nat → Nat} {xs : Nat → Int32} (hX : Okk X Z code 4 "NeverBothDoorsLaw" l 11) (hW : LawX X b L xs) (hL : L ≤ 1536) (hk : 3 * k + 2 < L) (ih : ∀ Sn Sm Sk T V U S, Rel Sn Sk T U S → G X Z (wX Z a Sn Sm Sk T V U ++ wM Z h q S) 824 (lvL a b h k) []) {Sn Sm Sk T V U S : St} (hr : Rel Sn Sk T U S) : G X Z (wX Z a Sn Sm Sk T V U ++ wM Z h q S) 788 (lvL a b h k) [] := by
  obtain ⟨nP, nL, o, t, c, u, hB⟩ := hr.1
  obtain ⟨nT, hTI⟩ := hr.2.1
  obtain ⟨nR, hRI⟩ := hr.2.2.1
  have hB0 := hB
  obtain ⟨hP, hP5, hLn, hL7, hLk, hc1, h46, hV, hVa, hu, hu5, hu6, hE⟩ := hB0
  clear h46 hVa hu6
  have hX2 := e_on hr hB
  refine g_aload_n hX dL_law_788 1 rfl ?_
  refine law_callX hX (con_X_on l Z a Sn Sm Sk T V U ) mvX_on q_567 rfl (by decide) rfl rfl (Nat.le_of_ble_eq_true rfl) dL_law_789 (fun Sm1 V1 => ?_)
  refine g_aload_n hX dL_law_792 2 rfl ?_
  refine law_callP hX (con_M_on l Z h q S ) mvM_on q_931 rfl (by decide) rfl rfl (Nat.le_of_ble_eq_true rfl) dL_law_793 ?_
  obtain ⟨e1, S2, hs, hR2⟩ := hX2
  refine g_same (Same.pre (same_M hs)) ?_
  exact law_end hX dL_law_796 rfl e1 (ih _ _ _ _ _ _ _ hR2)
set_option maxHeartbeats 1000000 in
theorem law_count {X : XX} {Z : ZZ} {l : Launch} {a : Nat → Nat → Nat} {b h k L : Nat} {q : Nat → Nat} {xs : Nat → Int32} (hX : Okk X Z code 4 "NeverBothDoorsLaw" l 11) (hW : LawX X b L xs) (hL : L ≤ 1536) (hk : 3 * k + 2 < L) (ih : ∀ Sn Sm Sk T V U S, Rel Sn Sk T U S → G X Z (wX Z a Sn Sm Sk T V U ++ wM Z h q S) 824 (lvL a b h k) []) {Sn Sm Sk T V U S : St} (hr : Rel Sn Sk T U S) : G X Z (wX Z a Sn Sm Sk T V U ++ wM Z h q S) 801 (lvL a b h k) [] := by
  obtain ⟨nP, nL, o, t, c, u, hB⟩ := hr.1
  obtain ⟨nT, hTI⟩ := hr.2.1
  obtain ⟨nR, hRI⟩ := hr.2.2.1
  have hB0 := hB
  obtain ⟨hP, hP5, hLn, hL7, hLk, hc1, h46, hV, hVa, hu, hu5, hu6, hE⟩ := hB0
  clear h46 hVa hu6
  have hX2 := e_count hr hB hTI hRI (xs (3 * k + 1))
  refine g_aload_n hX dL_law_801 1 rfl ?_
  refine law_arg hX hW hL 1 (by omega) rfl dL_law_802 dL_law_803 dL_law_804 dL_law_805 dL_law_806 ?_
  refine law_callX hX (con_X_count l Z a Sn Sm Sk T V U (xs (3 * k + 1))) mvX_count q_571 rfl (by decide) rfl rfl (Nat.le_of_ble_eq_true rfl) dL_law_807 (fun Sm1 V1 => ?_)
  refine g_aload_n hX dL_law_810 2 rfl ?_
  refine law_arg hX hW hL 1 (by omega) rfl dL_law_811 dL_law_812 dL_law_813 dL_law_814 dL_law_815 ?_
  refine law_callP hX (con_M_count l Z h q S (xs (3 * k + 1))) mvM_count q_935 rfl (by decide) rfl rfl (Nat.le_of_ble_eq_true rfl) dL_law_816 ?_
  exact law_end hX dL_law_819 rfl hX2.1 (ih _ _ _ _ _ _ _ hX2.2)
