/-! the law's loop -/
theorem law_case {X : XX} {Z : ZZ} {l : Launch} {a : Nat → Nat → Nat} {b h k L : Nat} {q : Nat → Nat} {xs : Nat → Int32} (hX : Okk X Z code 4 "NeverBothDoorsLaw" l 11) (hW : LawX X b L xs) (hL : L ≤ 1536) (hk : 3 * k + 2 < L) (ih : ∀ Sn Sm Sk T V U S, Rel Sn Sk T U S → G X Z (wX Z a Sn Sm Sk T V U ++ wM Z h q S) 824 (lvL a b h k) []) {Sn Sm Sk T V U S : St} (hr : Rel Sn Sk T U S) (j : Nat) (hj : j < 32) : G X Z (wX Z a Sn Sm Sk T V U ++ wM Z h q S) 32 (lvL a b h k) [.int (nI j)] := by
  by_cases h28 : 28 ≤ j
  · exact g_tabOut hX 824 dL_law_32 (Or.inr (by rw [nI_toInt (by omega)]; omega)) rfl (ih _ _ _ _ _ _ _ hr)
  · have hc : j = 0 ∨ j = 1 ∨ j = 2 ∨ j = 3 ∨ j = 4 ∨ j = 5 ∨ j = 6 ∨ j = 7 ∨ j = 8 ∨ j = 9 ∨ j = 10 ∨ j = 11 ∨ j = 12 ∨ j = 13 ∨ j = 14 ∨ j = 15 ∨ j = 16 ∨ j = 17 ∨ j = 18 ∨ j = 19 ∨ j = 20 ∨ j = 21 ∨ j = 22 ∨ j = 23 ∨ j = 24 ∨ j = 25 ∨ j = 26 ∨ j = 27 := by omega
    rcases hc with rfl | rfl | rfl | rfl | rfl | rfl | rfl | rfl | rfl | rfl | rfl | rfl | rfl | rfl | rfl | rfl | rfl | rfl | rfl | rfl | rfl | rfl | rfl | rfl | rfl | rfl | rfl | rfl
    · exact g_tabIn hX 160 dL_law_32 (by decide) (by decide) (by rfl) rfl (law_letter hX hW hL hk ih hr)
    · exact g_tabIn hX 183 dL_law_32 (by decide) (by decide) (by rfl) rfl (law_burrow hX hW hL hk ih hr)
    · exact g_tabIn hX 196 dL_law_32 (by decide) (by decide) (by rfl) rfl (law_room hX hW hL hk ih hr)
    · exact g_tabIn hX 229 dL_law_32 (by decide) (by decide) (by rfl) rfl (law_lock hX hW hL hk ih hr)
    · exact g_tabIn hX 262 dL_law_32 (by decide) (by decide) (by rfl) rfl (law_person hX hW hL hk ih hr)
    · exact g_tabIn hX 295 dL_law_32 (by decide) (by decide) (by rfl) rfl (law_open hX hW hL hk ih hr)
    · exact g_tabIn hX 328 dL_law_32 (by decide) (by decide) (by rfl) rfl (law_passes hX hW hL hk ih hr)
    · exact g_tabIn hX 361 dL_law_32 (by decide) (by decide) (by rfl) rfl (law_minutes hX hW hL hk ih hr)
    · exact g_tabIn hX 384 dL_law_32 (by decide) (by decide) (by rfl) rfl (law_leak hX hW hL hk ih hr)
    · exact g_tabIn hX 417 dL_law_32 (by decide) (by decide) (by rfl) rfl (law_air hX hW hL hk ih hr)
    · exact g_tabIn hX 450 dL_law_32 (by decide) (by decide) (by rfl) rfl (law_gasps hX hW hL hk ih hr)
    · exact g_tabIn hX 473 dL_law_32 (by decide) (by decide) (by rfl) rfl (law_out hX hW hL hk ih hr)
    · exact g_tabIn hX 486 dL_law_32 (by decide) (by decide) (by rfl) rfl (law_way hX hW hL hk ih hr)
    · exact g_tabIn hX 519 dL_law_32 (by decide) (by decide) (by rfl) rfl (law_soonest hX hW hL hk ih hr)
    · exact g_tabIn hX 542 dL_law_32 (by decide) (by decide) (by rfl) rfl (law_farthest hX hW hL hk ih hr)
    · exact g_tabIn hX 565 dL_law_32 (by decide) (by decide) (by rfl) rfl (law_more hX hW hL hk ih hr)
    · exact g_tabIn hX 588 dL_law_32 (by decide) (by decide) (by rfl) rfl (law_errands hX hW hL hk ih hr)
    · exact g_tabIn hX 621 dL_law_32 (by decide) (by decide) (by rfl) rfl (law_fitted hX hW hL hk ih hr)
    · exact g_tabIn hX 634 dL_law_32 (by decide) (by decide) (by rfl) rfl (law_bare hX hW hL hk ih hr)
    · exact g_tabIn hX 647 dL_law_32 (by decide) (by decide) (by rfl) rfl (law_row hX hW hL hk ih hr)
    · exact g_tabIn hX 670 dL_law_32 (by decide) (by decide) (by rfl) rfl (law_gauges hX hW hL hk ih hr)
    · exact g_tabIn hX 703 dL_law_32 (by decide) (by decide) (by rfl) rfl (law_judge hX hW hL hk ih hr)
    · exact g_tabIn hX 716 dL_law_32 (by decide) (by decide) (by rfl) rfl (law_ends hX hW hL hk ih hr)
    · exact g_tabIn hX 729 dL_law_32 (by decide) (by decide) (by rfl) rfl (law_clear hX hW hL hk ih hr)
    · exact g_tabIn hX 742 dL_law_32 (by decide) (by decide) (by rfl) rfl (law_seeds hX hW hL hk ih hr)
    · exact g_tabIn hX 775 dL_law_32 (by decide) (by decide) (by rfl) rfl (law_image hX hW hL hk ih hr)
    · exact g_tabIn hX 788 dL_law_32 (by decide) (by decide) (by rfl) rfl (law_on hX hW hL hk ih hr)
    · exact g_tabIn hX 801 dL_law_32 (by decide) (by decide) (by rfl) rfl (law_count hX hW hL hk ih hr)
theorem law_loop {X : XX} {Z : ZZ} {l : Launch} {a : Nat → Nat → Nat} {b h L : Nat} {q : Nat → Nat} {xs : Nat → Int32} (hX : Okk X Z code 4 "NeverBothDoorsLaw" l 11) (hW : LawX X b L xs) (hL : L ≤ 1536) : ∀ k, k ≤ 513 → ∀ Sn Sm Sk T V U S, Rel Sn Sk T U S → G X Z (wX Z a Sn Sm Sk T V U ++ wM Z h q S) 18 (lvL a b h k) [] := by
  have go : ∀ k, k ≤ 513 → (∀ Sn Sm Sk T V U S, 3 * k + 2 < L → Rel Sn Sk T U S → G X Z (wX Z a Sn Sm Sk T V U ++ wM Z h q S) 26 (lvL a b h k) []) → ∀ Sn Sm Sk T V U S, Rel Sn Sk T U S → G X Z (wX Z a Sn Sm Sk T V U ++ wM Z h q S) 18 (lvL a b h k) [] := by
    intro k hk body Sn Sm Sk T V U S hr
    refine g_iload_n hX dL_law_18 3 rfl ?_
    refine g_aload_n hX dL_law_19 0 rfl ?_
    refine law_slen hX hW dL_law_20 ?_
    refine g_iconst (v := 3) hX dL_law_21 (by decide) ?_
    refine g_isub hX dL_law_22 rfl ?_
    refine g_icmp_gt hX 830 dL_law_23 rfl (fun _ => ?_) (fun hc => body Sn Sm Sk T V U S (law_cmp hL hk hc) hr)
    refine g_iconst (v := 1) hX dL_law_830 (by decide) ?_
    exact law_ret1 hX hW dL_law_831
  refine loopUp _ 513 (go 513 (Nat.le_refl _) (fun _ _ _ _ _ _ _ hc _ => by omega)) (fun k hk ih => go k (by omega) (fun Sn Sm Sk T V U S hlt hr => ?_))
  refine g_aload_n hX dL_law_26 0 rfl ?_
  refine g_iload_n hX dL_law_27 3 rfl ?_
  refine law_sld hX hW (3 * k) (by omega) (by omega) rfl dL_law_28 ?_
  refine g_bipush (v := 31) hX dL_law_29 (by decide) ?_
  obtain ⟨j, hj, ej⟩ := and_31 (xs (3 * k))
  refine g_iand hX dL_law_31 ej ?_
  refine law_case hX hW hL hlt (fun Sn Sm Sk T V U S hr => ?_) hr j hj
  refine g_iinc hX dL_law_824 3 rfl (nI_add (3 * k) 3) (by decide) [1, 2, 3, 0] rfl ?_
  refine g_goto hX 18 dL_law_827 rfl ?_
  exact ih Sn Sm Sk T V U S hr
