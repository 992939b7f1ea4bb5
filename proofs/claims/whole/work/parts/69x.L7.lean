/-! from the claim's entry: the machine as the law finds it -/
theorem over_spec0 {args : Array Value} {s : State} {t : FieldType} (h : (Cond.arrayOver (.array t)).before args s = true) : ∃ comp c k, s.vm.classes[c]? = some k ∧ k.kind = .array comp (.array t) ∧ s.vm.findClass ("[" ++ (FieldType.array t).toString) = some c := by
  simp only [Cond.before, Cond.holds, Cond.value, beq_iff_eq] at h
  cases hc : s.vm.findClass (FieldType.array t).toString with
  | none => simp [hc] at h
  | some comp =>
    simp only [hc, Option.bind_some, Option.bind_eq_some_iff, Option.map_eq_some_iff] at h
    obtain ⟨c, hi, k, hk, hb⟩ := h
    obtain ⟨hlt, hp, -⟩ := Array.findIdx?_eq_some_iff_getElem.mp hi
    have hkk : s.vm.classes[c] = k := (Array.getElem?_eq_some_iff.mp hk).2
    rw [hkk] at hp
    cases hkind : k.kind with
    | array component ty =>
      rw [hkind] at hb hp
      simp at hb hp
      exact ⟨comp, c, k, hk, by rw [hkind, hp, hb.1], hb.2⟩
    | _ => rw [hkind] at hb; simp at hb
abbrev tmS (i : Nat) : Term := .string (sOw i) (sIx i)
abbrev nrF : List Cond := flatC (Jvm.Cond.and given_1 narrow_1)
set_option maxRecDepth 20000 in
theorem nr_len : ∀ i, i < 6 → sLen.getD i 0 < 2 ^ 31 := by decide +kernel
set_option maxRecDepth 20000 in
theorem nr_ex : ∀ i, i < 6 → Cond.exactly (tmS i) "java/lang/String" ∈ nrF := by decide +kernel
set_option maxRecDepth 20000 in
theorem nr_co : ∀ i, i < 6 → Cond.eq (.field (tmS i) "java/lang/String" "coder" "B") (.int 0) ∈ nrF := by decide +kernel
set_option maxRecDepth 20000 in
theorem nr_ar : ∀ i, i < 6 → Cond.arrayOf (.field (tmS i) "java/lang/String" "value" "[B") .byte ∈ nrF := by decide +kernel
set_option maxRecDepth 20000 in
theorem nr_le : ∀ i, i < 6 → Cond.eq (.length (.field (tmS i) "java/lang/String" "value" "[B")) (.int (Int32.ofNat (sLen.getD i 0))) ∈ nrF := by decide +kernel
set_option maxRecDepth 20000 in
theorem nr_el : ∀ i, i < 6 → ∀ j, j < sLen.getD i 0 → Cond.eq (.elem (.field (tmS i) "java/lang/String" "value" "[B") (.int (Int32.ofNat j))) (.int ((sByt.getD i []).getD j 0)) ∈ nrF := by decide +kernel
set_option maxRecDepth 20000 in
theorem nr_ne : ∀ i, i < 6 → ∀ j, j < 6 → i ≠ j → Cond.not (Cond.eq (tmS i) (tmS j)) ∈ nrF ∨ Cond.not (Cond.eq (tmS j) (tmS i)) ∈ nrF := by decide +kernel
set_option maxRecDepth 20000 in
theorem tb_str : ∀ i, i < 6 → Cond.stringRef (sOw i) (sIx i) (sTx i) ∈ lw_tbl := by decide +kernel
set_option maxHeartbeats 4000000 in
set_option maxRecDepth 20000 in
theorem whole_start0 {p : Program} {e : Env} {s : State} {m : MethodId} {below : List Frame} {meth : Method} {c : Code} (l : Launch) (hWays : ∀ Z hw, ConN l Z yW_init cW_init 1 1 9 952 [.ref hw] [(hw, .inr (2, [.null, .null]))] (fun ws => ∃ q, ws = wW Z hw q S00)) {b L : Nat} {xs : Nat → Int32} (hL : L ≤ 1536) (C0 : lw_At p s m meth c b L xs) : W p l e room_1 s m #[Value.ref b] below meth c s.heap [] 0 0 (lw_Z below #[Value.ref b] s) (entryFrame m ([Value.ref b] : List Value).toArray 4) := by
  obtain ⟨hx, hb, hr, hml, hown, hts, hXs, hbl, hlk, hgv⟩ := C0
  have hs : ∀ w ∈ nrF, w.before #[Value.ref b] s = true := flat_of_before _ hgv
  have hUW : ∀ w ∈ UW, w.before #[Value.ref b] s = true := fun w hw => hts w (List.mem_filter.mp hw).1
  have hnA : ∀ a : Nat, a < s.heap.size → ¬ (fun q : Nat => s.heap.size ≤ q) a := fun a ha => Nat.not_le.mpr ha
  obtain ⟨cB, iB, kB⟩ := u_known (n := 16) hUW uu_B (hts (Cond.instantiable "NeverBothDoors$Burrow" 16) (by decide +kernel))
  obtain ⟨cT, iT, kT⟩ := u_known (n := 2) hUW uu_T (hts (Cond.instantiable "NeverBothDoors$Text" 2) (by decide +kernel))
  obtain ⟨cW, iW, kW⟩ := u_known (n := 2) hUW uu_W (hts (Cond.instantiable "NeverBothDoors$Ways" 2) (by decide +kernel))
  obtain ⟨cX, iX, kX⟩ := u_known (n := 9) hUW uu_X (hts (Cond.instantiable "NeverBothDoors" 9) (by decide +kernel))
  obtain ⟨cM, iM, kM⟩ := u_known (n := 29) hUW uu_M (hts (Cond.instantiable "NeverBothDoorsModel" 29) (by decide +kernel))
  obtain ⟨cI, kI, compI, fI1, fI2, fI3⟩ := Cond.arrayClass_spec (hts (Cond.arrayClass .int) (by decide +kernel))
  have hov : (Cond.arrayOver (.array .int)).before #[Value.ref b] s = true := hts (Cond.arrayOver (.array .int)) (by decide +kernel)
  obtain ⟨compJ, cJ, kJ, fJ1, fJ2, fJ3⟩ := over_spec0 hov
  obtain ⟨adK, adV, hS6, hEv⟩ := vk_Sof (N := 6) (tm := tmS) (len := sLen) (byt := sByt) (args := #[Value.ref b]) (s := s) (A := fun q => s.heap.size ≤ q) nr_len (fun i hi => hs _ (nr_ex i hi)) (fun i hi => hs _ (nr_co i hi)) (fun i hi => hs _ (nr_ar i hi)) (fun i hi => hs _ (nr_le i hi)) (fun i hi j hj => hs _ (nr_el i hi j hj)) (fun i j hi hj hij => (nr_ne i hi j hj hij).imp (hs _) (hs _)) hnA
  let Z : ZZ := ((fun c => match c with | 0 => cB | 1 => cT | 2 => cW | 3 => cX | _ => cM, fun c => match c with | 0 => iB | 1 => iT | 2 => iW | 3 => iX | _ => iM), cI, cJ, adK, adV, fun q => s.heap.size ≤ q)
  have hK : va_K (zD Z) classes (tys Z) s := by
    refine ⟨fun c q hq => ?_, fun k q hk => ?_⟩
    · match c, hq with
      | 0, hq => cases hq; exact kB
      | 1, hq => cases hq; exact kT
      | 2, hq => cases hq; exact kW
      | 3, hq => cases hq; exact kX
      | 4, hq => cases hq; exact kM
      | n + 5, hq => exact absurd (show (none : Option vw_C) = some q from hq) (by simp)
    · match k, hk with
      | 0, hk => cases hk; exact ⟨fun n z => ⟨(fun k h => by cases h), kI, fI2, compI, fI3⟩, fI1⟩
      | 1, hk => cases hk; exact ⟨fun n z => ⟨(fun k h => by cases h), kJ, fJ1, compJ, fJ2⟩, fJ3⟩
      | n + 2, hk => exact absurd (show (none : Option (ClassId × FieldType)) = some q from hk) (by simp)
  have hE : EN Z s s.heap := by
    refine ⟨⟨va_Nw.of rfl (hts (.methodLinkNest "NeverBothDoors$Text" 60 yX_kindOf "NeverBothDoors") (by decide +kernel)), va_Nw.of rfl (hts (.methodLinkNest "NeverBothDoors$Burrow" 73 yX_isRoom "NeverBothDoors") (by decide +kernel)), va_Nw.of rfl (hts (.methodLinkNest "NeverBothDoors$Burrow" 77 yX_isPlace "NeverBothDoors") (by decide +kernel)), va_Nw.of rfl (hts (.methodLinkNest "NeverBothDoors$Burrow" 96 yX_breathOfKind "NeverBothDoors") (by decide +kernel)), va_Nw.of rfl (hts (.methodLinkNest "NeverBothDoors$Ways" 44 yX_isPlace "NeverBothDoors") (by decide +kernel))⟩, fun i hi => vk_R.of (hts _ (tb_str i hi)) (hEv i hi), hS6, ?_, ?_⟩
    · exact va_Zof (hts (Cond.laysStatic "java/lang/String" "COMPACT_STRINGS" "Z") (by decide +kernel)) (hts (Cond.initialized "java/lang/String") (by decide +kernel)) (va_eqt (hs (Cond.eq (.static "java/lang/String" "COMPACT_STRINGS" "Z") (.int 1)) (by decide +kernel))) hnA
    · exact va_Zqof (hts (Cond.laysStatic "jdk/internal/util/Preconditions" "SIOOBE_FORMATTER" "Ljava/util/function/BiFunction;") (by decide +kernel)) (hts (Cond.initialized "jdk/internal/util/Preconditions") (by decide +kernel)) (hs (Cond.isRef (.static "jdk/internal/util/Preconditions" "SIOOBE_FORMATTER" "Ljava/util/function/BiFunction;")) (by decide +kernel)) hnA
  have hEx : ExN s := ⟨hov, va_Nw.of rfl (hts (.methodLinkNest "NeverBothDoors" 28 yT_init "NeverBothDoors") (by decide +kernel)), va_Nw.of rfl (hts (.methodLinkNest "NeverBothDoors" 35 yW_init "NeverBothDoors") (by decide +kernel))⟩
  have hX : Okk (p, l, e, room_1, s, m, #[Value.ref b], below, meth, c, 0, 0, lw_Z below #[Value.ref b] s, 4, fun q => s.heap.size ≤ q) Z code 4 "NeverBothDoorsLaw" l 11 := ⟨hx, hb, hml, hown, hUW, hK, fun q h => h, hlk, hE, fun q h => h, fun q h => h, ⟨Nat.zero_le _, Nat.zero_le _, by decide, by decide⟩, rfl, rfl⟩
  have hg := law_start (X := (p, l, e, room_1, s, m, #[Value.ref b], below, meth, c, 0, 0, lw_Z below #[Value.ref b] s, 4, fun q => s.heap.size ≤ q)) (fun hw => hWays Z hw) hX ⟨by decide, by decide, rfl, rfl, hEx⟩ (b := b) (L := L) (xs := xs) ⟨rfl, rfl, hXs, hbl, rfl, rfl, Nat.zero_le _, Nat.zero_le _, hr⟩ hL
  have hl := lv_entry [Value.ref b] (n := 4) (Nat.le_of_ble_eq_true rfl)
  rw [lg_entry_eq]
  exact hg _ s.heap [] hl (fun k q h => by cases h) ⟨fun i j p q h => (by cases h), fun k q h => (by cases h)⟩ va_S.rf
