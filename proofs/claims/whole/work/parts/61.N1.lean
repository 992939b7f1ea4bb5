/-! constructors: a world that grows -/
def va_AOA (t : FieldType) (U : State) : Prop := (Cond.arrayOver (.array t)).before #[] U = true
theorem va_AOA.use {t : FieldType} {A : Array Value} {U : State} (h : va_AOA t U) : (Cond.arrayOver (.array t)).before A U = true := h
theorem va_AOA.moved {t : FieldType} {u U : State} (hvm : u.vm.Alike U.vm) (h : va_AOA t u) : va_AOA t U := over_moved hvm h
abbrev rmN (d C N : Nat) : Room := { frames := d, cells := C, slots := N, locals := 37 * d }
def ExN (U : State) : Prop := va_AOA .int U ∧ va_Nw (.methodLinkNest "NeverBothDoors" 28 yT_init "NeverBothDoors") U ∧ va_Nw (.methodLinkNest "NeverBothDoors" 35 yW_init "NeverBothDoors") U
theorem ExN.warm {s U : State} (hW : s.WarmedH U.vm) (h : ExN s) : ExN U := ⟨h.1.moved hW.alike, va_Nw.warmM hW h.2.1, va_Nw.warmM hW h.2.2⟩
theorem ExN.same {u U : State} (hv : U.vm = u.vm) (h : ExN u) : ExN U := ⟨h.1.moved (by rw [hv]; exact Vm.Alike.refl _), va_Nw.same rfl hv.symm h.2.1, va_Nw.same rfl hv.symm h.2.2⟩
def PcN (Z : ZZ) (As : List Value) (ws : va_W) (sz : Nat) : Array Value → State → Prop := va_Pc As (fun U => U.heap.size = sz ∧ va_P (zD Z) classes ws U.heap ∧ va_K (zD Z) classes (tys Z) U ∧ va_D (zB Z) ws ∧ EN Z U U.heap ∧ (∀ q, sz ≤ q → zB Z q) ∧ ExN U)
def QcN (Z : ZZ) (ws : va_W) (sz : Nat) (Post : va_W → Prop) : Array Value → State → Outcome → State → Prop := fun _ st oc t => (∃ ws' : va_W, oc = .returned none ∧ Post ws' ∧ va_P (zD Z) classes ws' t.heap ∧ va_D (va_A ws sz) ws') ∧ va_F (va_A ws sz) st t
def ConN (l : Launch) (Z : ZZ) (y : MethodName) (b : ByteArray) (n d C N : Nat) (As : List Value) (ws : va_W) (Post : va_W → Prop) : Prop := ∀ sz, Met l y (.code y b n none :: UW) (rmN d C N) (PcN Z As ws sz) (QcN Z ws sz Post) C N (va_A ws sz)
theorem PcN.blind (Z : ZZ) (As : List Value) (ws : va_W) (sz : Nat) : FrameBlind (PcN Z As ws sz) := fun a U g mk q => by
  obtain ⟨q0, q1, qP, qK, qD, qE, qB, qX⟩ := q
  exact ⟨q0, q1, qP, va_K.moved (u := U) (U := U.calling g mk a) (Vm.Alike.refl U.vm) qK, qD, EN.same (u := U) rfl qE, qB, ExN.same (u := U) rfl qX⟩
def grw (X : XX) (a b : Nat) : XX := match X with
  | (p, l, e, R, s, m, args, below, meth, c, kc, ks, Q, nL, A) => (p, l, e, R, s, m, args, below, meth, c, kc + a, ks + b, Q, nL, A)
/-- the room: in all; what is used -/
def Rmx : XX → Nat → Nat → Nat → Nat → Prop
  | (_, _, _, R, s, _, _, _, _, _, kc, ks, _, _, _), C, N, k, n => C ≤ R.cells ∧ N ≤ R.slots ∧ kc = k ∧ ks = n ∧ ExN s
/-- what a constructor's body is, and what its end must bring -/
def Bld : XX → ZZ → va_W → (va_W → Prop) → Nat → Nat → Prop
  | (_, _, _, _, s, _, args, below, meth, _, _, _, Q, _, A), Z, ws, Post, C, N => Q = MQ below (QcN Z ws s.heap.size Post) args s C N A ∧ A = va_A ws s.heap.size ∧ meth.sig.returnType = none ∧ meth.name = "<init>"
theorem Okk.grow {X : XX} {Z : ZZ} {cc : ByteArray} {n : Nat} {own : String} {l0 : Launch} {d C N k k2 a b : Nat} (hX : Okk X Z cc n own l0 d) (hR : Rmx X C N k k2) (h1 : k + a ≤ C) (h2 : k2 + b ≤ N) : Okk (grw X a b) Z cc n own l0 d := by
  obtain ⟨p, l, e, R, s, m, args, below, meth, c, kc, ks, Q, nL, A⟩ := X
  obtain ⟨hx, hb, hml, hown, hts, hK, hA, hlk, hE, hAB, hzB, hRm, rfl, rfl⟩ := hX
  obtain ⟨r1, r2, rfl, rfl, hE2⟩ := hR
  exact ⟨hx, hb, hml, hown, hts, hK, hA, hlk, hE, hAB, hzB, ⟨Nat.le_trans h1 r1, Nat.le_trans h2 r2, hRm.2.2.1, hRm.2.2.2⟩, rfl, rfl⟩
theorem Rmx.grow {X : XX} {C N k k2 a b : Nat} (hR : Rmx X C N k k2) : Rmx (grw X a b) C N (k + a) (k2 + b) := by
  obtain ⟨p, l, e, R, s, m, args, below, meth, c, kc, ks, Q, nL, A⟩ := X
  obtain ⟨r1, r2, rfl, rfl, hE2⟩ := hR
  exact ⟨r1, r2, rfl, rfl, hE2⟩
theorem Bld.grow {X : XX} {Z : ZZ} {ws : va_W} {Post : va_W → Prop} {C N a b : Nat} (hB : Bld X Z ws Post C N) : Bld (grw X a b) Z ws Post C N := by
  obtain ⟨p, l, e, R, s, m, args, below, meth, c, kc, ks, Q, nL, A⟩ := X
  exact hB
theorem ConN.of {l : Launch} {Z : ZZ} {y : MethodName} {b : ByteArray} {n : Nat} {d C N : Nat} {As : List Value} {ws : va_W} {Post : va_W → Prop} (hy : plainName y.cls = true) (hin : y.name = "<init>") (hn : (lg_sl As).length ≤ n)
    (body : ∀ X : XX, Okk X Z b n y.cls l d → Bld X Z ws Post C N → Rmx X C N 0 0 → G X Z ws 0 (lv_args 0 As) []) : ConN l Z y b n d C N As ws Post := by
  intro sz
  refine Met.ofW (cc := b) (maxL := n) (ret := none) hy rfl ?_
  intro p e s m args below meth c s₁ B hml hv
  obtain ⟨rfl, hsz, hP, hK, hD0, hE, hB, hEx⟩ := hv
  have hx := B.exec
  have hb := B.bytes
  have hr := B.returns
  have hts := atoms_spec (ws := .code y b n none :: UW) B.pre
  have hown : s.vm.findClass y.cls = some m.cls := findClass_of_methodNamed B.named
  have hlocks := B.notSynchronized
  have hnm : meth.name = "<init>" := (name_of_methodNamed B.named B.method).1.trans hin
  subst hsz
  have hg := body (p, l, e, rmN d C N, s, m, As.toArray, below, meth, c, 0, 0, MQ below (QcN Z ws s.heap.size Post) As.toArray s C N (va_A ws s.heap.size), n, va_A ws s.heap.size)
    ⟨hx, hb, hml, hown, fun w hw => hts w (List.mem_cons_of_mem _ hw), hK, fun q h => Or.inr h, hlocks, hE, fun q h => by
      rcases h with ⟨k, e9, h⟩ | h
      · exact hD0.2 k (q, e9) h
      · exact hB q h, hB, ⟨Nat.zero_le _, Nat.zero_le _, Nat.le_refl _, Nat.le_refl _⟩, rfl, rfl⟩
    ⟨rfl, rfl, hr, hnm⟩ ⟨Nat.le_refl _, Nat.le_refl _, rfl, rfl, hEx⟩
  have hl := lv_entry As (n := n) hn
  rw [lg_entry_eq]
  exact hg _ s.heap [] hl hP hD0.self va_S.rf
theorem g_nret {X : XX} {Z : ZZ} {cc : ByteArray} {n : Nat} {own : String} {l0 : Launch} {d : Nat} {ws : va_W} {pc : Nat} {lv : List (Nat × Value)} (hX : Okk X Z cc n own l0 d) {ws0 : va_W} {Post : va_W → Prop} {C N : Nat} (hB : Bld X Z ws0 Post C N) (hR : Rmx X C N C N) (hd : decode cc pc = .ok (.return_, 1)) (hp : Post ws) : G X Z ws pc lv [] := by
  obtain ⟨p, l, e, R, s, m, args, below, meth, c, kc, ks, Q, nL, A⟩ := X
  obtain ⟨hx, hb, hml, hown, hts, hK, hA, hlk, hE, hAB, hzB, hRm, rfl, rfl⟩ := hX
  obtain ⟨rfl, rfl, hr, hnm⟩ := hB
  obtain ⟨r1, r2, rfl, rfl, hE2⟩ := hR
  intro ls H locs h hP hD hS
  exact W.vret hx hb hr (fun t ht hW => ⟨⟨ws, rfl, hp, by rw [ht]; exact hP, hD⟩, hS.F ht⟩) hS.2.2 hd hlk
theorem g_newa {X : XX} {Z : ZZ} {cc : ByteArray} {n : Nat} {own : String} {l0 : Launch} {d : Nat} {ws : va_W} {pc : Nat} {lv : List (Nat × Value)} {st : List Value} (hX : Okk X Z cc n own l0 d) {C N k0 n0 : Nat} (hR : Rmx X C N k0 n0) (L : Nat) (hL : L < 2 ^ 20) {i : Int32} (hi : i = nI L) (hc : k0 + 1 ≤ C) (hs : n0 + L ≤ N) (harr : Cond.arrayClass .int ∈ UW) (hd : decode cc pc = .ok (.newarray .int, 2))
    (kk : ∀ q : Nat, Okk (grw X 1 L) Z cc n own l0 d → Rmx (grw X 1 L) C N (k0 + 1) (n0 + L) → G (grw X 1 L) Z (ws ++ [(q, .inl (zI Z, L, .inl (fun _ => 0)))]) (pc + 2) lv (.ref q :: st)) : G X Z ws pc lv (.int i :: st) := by
  have hX' := hX.grow hR hc hs
  have hR' : Rmx (grw X 1 L) C N (k0 + 1) (n0 + L) := hR.grow
  obtain ⟨p, l, e, R, s, m, args, below, meth, c, kc, ks, Q, nL, A⟩ := X
  obtain ⟨hx, hb, hml, hown, hts, hK, hA, hlk, hE, hAB, hzB, hRm, rfl, rfl⟩ := hX
  obtain ⟨r1, r2, rfl, rfl, hE2⟩ := hR
  intro ls H locs h hP hD hS
  subst hi
  refine va_newa (atype := .int) (ty := .int) (a0 := (L, .inl (fun _ => 0))) hx hb (hts _ harr) rfl hK hP hD hS hA (fun cA => rfl) (nI_pos (by omega)) (nI_clamp (by omega)) (show L * 4 ≤ 536870912 by omega) (Nat.le_trans hc r1) (Nat.le_trans hs r2) hd (fun q cA H1 hK1 hP1 hD1 hS1 => ?_)
  have e9 : cA = zI Z := by
    have h1 := (hK1.2 2 (cA, .int) rfl).2
    have h2 := (hK.2 0 (zI Z, .int) rfl).2
    exact Option.some.inj (h1.symm.trans h2)
  subst e9
  exact kk q hX' hR' ls H1 locs h hP1 hD1 hS1
theorem g_new {X : XX} {Z : ZZ} {cc : ByteArray} {n : Nat} {own : String} {l0 : Launch} {d : Nat} {ws : va_W} {pc : Nat} {lv : List (Nat × Value)} {st : List Value} (hX : Okk X Z cc n own l0 d) {C N k0 n0 : Nat} (hR : Rmx X C N k0 n0) {Cn : String} {T : u_T} {M ci idx : Nat} (hcl : classes[ci]? = some (Cn, T, M)) (hu : ∀ w ∈ u_ws Cn T M, w ∈ UW) (ty : Nat → FieldType) (hty : ∀ k, k < M → parseFieldDescriptor (T k).2.2.1 = some (ty k)) (hlk0 : Cond.classLink own idx Cn ∈ UW) (hinst : Cond.instantiable Cn M ∈ UW) (hini : Cond.initialized Cn ∈ UW) {fs : List Value} (hfs : ∀ j, j < M → defaultValue (ty j) = vp_V fs j) (hc : k0 + 1 ≤ C) (hs : n0 + M ≤ N) (hd : decode cc pc = .ok (.new idx, 3))
    (kk : ∀ q : Nat, Okk (grw X 1 M) Z cc n own l0 d → Rmx (grw X 1 M) C N (k0 + 1) (n0 + M) → G (grw X 1 M) Z (ws ++ [(q, .inr (ci, fs))]) (pc + 3) lv (.ref q :: st)) : G X Z ws pc lv st := by
  have hX' := hX.grow hR hc hs
  have hR' : Rmx (grw X 1 M) C N (k0 + 1) (n0 + M) := hR.grow
  obtain ⟨p, l, e, R, s, m, args, below, meth, c, kc, ks, Q, nL, A⟩ := X
  obtain ⟨hx, hb, hml, hown, hts, hK, hA, hlk, hE, hAB, hzB, hRm, rfl, rfl⟩ := hX
  obtain ⟨r1, r2, rfl, rfl, hE2⟩ := hR
  intro ls H locs h hP hD hS
  exact va_new (ci := ci) (fs := fs) (C := Cn) (T := T) (N := M) hx hb hts hu ty hty hown (hts _ hlk0) (hts _ hinst) (hts _ hini) hK hP hD hS hA hcl hfs (Nat.le_trans hc r1) (Nat.le_trans hs r2) hd (fun q H1 hP1 hD1 hS1 => kk q hX' hR' ls H1 locs h hP1 hD1 hS1)
theorem g_putF {X : XX} {Z : ZZ} {cc : ByteArray} {n : Nat} {own : String} {l0 : Launch} {d : Nat} {ws : va_W} {pc : Nat} {lv : List (Nat × Value)} {st : List Value} (hX : Okk X Z cc n own l0 d) {ws0 : va_W} {Post : va_W → Prop} {C9 N9 : Nat} (hB : Bld X Z ws0 Post C9 N9) {a : Nat} {C ref : String} {T : u_T} {N ci idx : Nat} {fs : List Value} {v : Value} {ty : FieldType} {ws1 : va_W} (q0 : Nat) (he : ws[q0]? = some (a, .inr (ci, fs))) (hc : classes[ci]? = some (C, T, N)) (k : Nat) (hk : k < N) (hu : ∀ w ∈ u_ws C T N, w ∈ UW) (ty0 : Nat → FieldType) (hty : ∀ k, k < N → parseFieldDescriptor (T k).2.2.1 = some (ty0 k)) (hnm : ∀ a, a < N → ∀ b, b < N → a ≠ b → (T a).2.1 ≠ (T b).2.1) (hlink : Cond.fieldLink own idx ref (T k).2.1 (T k).2.2.1 ∈ UW) (hsame : (T k).1 = ref) (hdecl : (T k).1 = own) (hfin : (T k).2.2.2 = true) (hty1 : parseFieldDescriptor (T k).2.2.1 = some ty) (hn : narrow ty v = v) (hfit : fits ty v = true) (hl : k < fs.length) (hd : decode cc pc = .ok (.putfield idx, 3)) (hw : ws.set q0 (a, .inr (ci, fs.set k v)) = ws1) (kk : G X Z ws1 (pc + 3) lv st) : G X Z ws pc lv (v :: .ref a :: st) := by
  obtain ⟨p, l, e, R, s, m, args, below, meth, c, kc, ks, Q, nL, A⟩ := X
  obtain ⟨hx, hb, hml, hown, hts, hK, hA, hlk, hE, hAB, hzB, hR, rfl, rfl⟩ := hX
  obtain ⟨-, -, -, hin2⟩ := hB
  intro ls H locs h hP hD hS
  subst hsame hw
  exact va_putF (D := zD Z) (cl := classes) hx hb hts hu ty0 hty hnm hown hK hP hD hS q0 he hc k hk (hts _ hlink) (fun _ q => q) hfin hin2 hdecl hty1 hn hfit hl hd (fun H1 locs1 hP1 hD1 hS1 => kk ls H1 locs1 h hP1 hD1 hS1)
theorem g_objI {X : XX} {Z : ZZ} {cc : ByteArray} {n : Nat} {own : String} {l0 : Launch} {d : Nat} {ws : va_W} {pc : Nat} {lv : List (Nat × Value)} {st : List Value} (hX : Okk X Z cc n own l0 d) {idx a : Nat} (hd1 : 1 ≤ d) (hlink : Cond.methodLink own idx Lib.objectInit ∈ UW) (hinst : Cond.instanceMethod Lib.objectInit ∈ UW) (hcode : Cond.code Lib.objectInit ⟨#[0xb1]⟩ 1 none ∈ UW) (hcat : (st.map fun v => v.category).sum ≤ 8) (hd : decode cc pc = .ok (.invokespecial idx, 3)) (kk : G X Z ws (pc + 3) lv st) : G X Z ws pc lv (.ref a :: st) := by
  obtain ⟨p, l, e, R, s, m, args, below, meth, c, kc, ks, Q, nL, A⟩ := X
  obtain ⟨hx, hb, hml, hown, hts, hK, hA, hlk, hE, hAB, hzB, hR, rfl, rfl⟩ := hX
  intro ls H locs h hP hD hS
  refine W.objInit (g := F0 m pc ls (.ref a :: st)) hx hb hown (hts _ hlink) (hts _ hinst) (hts _ hcode) rfl (h.1.trans hml.symm) rfl hd (Nat.le_trans hd1 hR.2.2.1) ?_ (kk ls H locs h hP hD hS)
  have h1 : 2 * (F0 m pc ls (.ref a :: st)).monitorRoom + (st.map fun v => v.category).sum ≤ 8 := lv_room hcat
  have h2 := hR.2.2.2
  omega
theorem g_sub {X : XX} {Z : ZZ} {ws ws1 : va_W} {pc : Nat} {lv : List (Nat × Value)} {st : List Value} (is : List Nat) (hs : is.map (fun i => ws[i]?) = ws1.map some) (hnd : va_nd is = true) (kk : G X Z ws1 pc lv st) : G X Z ws pc lv st := by
  obtain ⟨p, l, e, R, s, m, args, below, meth, c, kc, ks, Q, nL, A⟩ := X
  intro ls H locs h hP hD hS
  have hnd := va_nd_inj is hnd
  have at' : ∀ (k : Nat) (q : Nat × va_E), ws1[k]? = some q → ∃ i : Nat, is[k]? = some i ∧ ws[i]? = some q := by
    intro k q hq
    have h1 : (is.map (fun i => ws[i]?))[k]? = some (some q) := by rw [hs, List.getElem?_map, hq]; rfl
    rw [List.getElem?_map] at h1
    cases hi : is[k]? with
    | none => rw [hi] at h1; cases h1
    | some i => rw [hi] at h1; exact ⟨i, rfl, Option.some.inj h1⟩
  refine kk ls H locs h (fun k q hq => ?_) ⟨fun i j x y hi hj hxy => ?_, fun k q hq => ?_⟩ hS
  · obtain ⟨i, -, b2⟩ := at' k q hq
    exact hP i q b2
  · obtain ⟨a1, b1, b2⟩ := at' i x hi
    obtain ⟨a2, b3, b4⟩ := at' j y hj
    have := hD.1 a1 a2 x y b2 b4 hxy
    subst this
    exact hnd i j a1 b1 b3
  · obtain ⟨i, -, b2⟩ := at' k q hq
    exact hD.2 i q b2
theorem last_get (wr : va_W) (x : Nat × va_E) : (wr ++ [x])[wr.length]? = some x := by
  rw [List.getElem?_append_right (Nat.le_refl _), Nat.sub_self]
  rfl
theorem pre_get (wr : va_W) (x : Nat × va_E) : (List.range wr.length).map (fun i => (wr ++ [x])[i]?) = wr.map some := by
  apply List.ext_getElem?
  intro k
  rw [List.getElem?_map, List.getElem?_map]
  by_cases h : k < wr.length
  · rw [List.getElem?_range h, Option.map_some, List.getElem?_append_left h, List.getElem?_eq_getElem h]
    rfl
  · rw [List.getElem?_eq_none (by rw [List.length_range]; omega), List.getElem?_eq_none (by omega)]
    rfl
theorem nd_range : ∀ n, va_nd (List.range n) = true ∨ True := fun _ => Or.inr trivial
/-- a call of a constructor on the object made last -/
theorem g_callK {X : XX} {Z : ZZ} {cc : ByteArray} {n : Nat} {own : String} {l0 : Launch} {d : Nat} {wr : va_W} {x0 : Nat × va_E} {pc : Nat} {lv : List (Nat × Value)} {st st0 : List Value} (hX : Okk X Z cc n own l0 d) {C N k0 n0 C1 N1 : Nat} (hR : Rmx X C N k0 n0) (hc : k0 + C1 ≤ C) (hs : n0 + N1 ≤ N) {Post : va_W → Prop} (hnd : va_nd (List.range wr.length) = true)
    (kk : ∀ wc1 : va_W, Post wc1 → Okk (grw X C1 N1) Z cc n own l0 d → Rmx (grw X C1 N1) C N (k0 + C1) (n0 + N1) → G (grw X C1 N1) Z (wr ++ wc1) (pc + 3) lv st)
    (hr : match X with | (p, l, e, R, s, m, args, below, meth, c, kc, ks, Q, nL, A) => ∀ (ls : Array Slot) (H : Heap) (locs : List Loc), lv_has ls nL lv → va_P (zD Z) classes [x0] H → va_D A [x0] → s.heap.size ≤ H.size → (∀ U : State, U.heap = H → s.WarmedH U.vm → EN Z U H) → ∃ a : Array Value, va_Run p l e R s m args below meth c H locs kc ks C1 N1 (F0 m pc ls st0) st (QcN Z [x0] H.size Post a) (va_A [x0] H.size)) : G X Z (wr ++ [x0]) pc lv st0 := by
  have hX' := hX.grow hR hc hs
  have hR' : Rmx (grw X C1 N1) C N (k0 + C1) (n0 + N1) := hR.grow
  obtain ⟨p, l, e, R, s, m, args, below, meth, c, kc, ks, Q, nL, A⟩ := X
  obtain ⟨hx, hb, hml, hown, hts, hK, hA, hlk, hE, hAB, hzB, hRm, rfl, rfl⟩ := hX
  intro ls H locs h hP hD hS
  have hC : [wr.length].map (fun i => (wr ++ [x0])[i]?) = [x0].map some := by
    show [(wr ++ [x0])[wr.length]?] = [some x0]
    rw [last_get]
  have hF := va_free (wc := [x0]) hD hS hA [wr.length] hC
  have hP0 : va_P (zD Z) classes [x0] H := fun k q hq => by
    have hz : k < 1 := (List.getElem?_eq_some_iff.mp hq).1
    rw [show k = 0 by omega] at hq
    cases hq
    exact hP wr.length x0 (last_get wr x0)
  have hD0 : va_D A [x0] := ⟨fun i j x y hi hj _ => by
    have h1 : i < 1 := (List.getElem?_eq_some_iff.mp hi).1
    have h2 : j < 1 := (List.getElem?_eq_some_iff.mp hj).1
    omega, fun k q hq => by
    have hz : k < 1 := (List.getElem?_eq_some_iff.mp hq).1
    rw [show k = 0 by omega] at hq
    cases hq
    exact hD.2 wr.length x0 (last_get wr x0)⟩
  have hEH : EN Z s H := hE.kept (fun a ha hna => hS.2.1 a ha (fun z => hna (hAB a z)))
  intro T hT Xs
  obtain ⟨a, hr⟩ := hr ls H locs h hP0 hD0 hS.1 (fun U hU hW => hEH.warm hW)
  obtain ⟨v, st₀, t, T', L, h0, X', hL, e1, e2, ⟨⟨wc1, hv, hpost, hP1, hD1⟩, hz, hk⟩, hst⟩ := hr T hT Xs
  cases hv
  rw [h0] at hz hk
  obtain ⟨hPn, hDn⟩ := va_join (wr := wr) (w1 := wc1) hP hD [wr.length] (List.range wr.length) hC (pre_get wr x0) hnd (fun i hi => by
    have := List.mem_range.mp hi
    intro z
    rw [List.mem_singleton] at z
    omega) hk hF hP1 hD1
  obtain ⟨t2, a1, b1⟩ := kk wc1 hpost hX' hR' ls T'.heap (locs ++ L) h (by rw [e1]; exact hPn) hDn
    ⟨Nat.le_trans hS.1 (by rw [e1]; exact hz), fun q h1 h2 => by rw [e1, hk q (Nat.lt_of_lt_of_le h1 hS.1) (fun z => h2 (hF q z))]; exact hS.2.1 q h1 h2, fun q hq => by
      rcases List.mem_append.mp hq with h | h
      · exact hS.2.2 q h
      · exact hF _ (hL q h)⟩ T' rfl X'
  exact ⟨t2, hst t2 a1, b1⟩
theorem g_callI {X : XX} {Z : ZZ} {cc : ByteArray} {n : Nat} {own : String} {l0 : Launch} {d : Nat} {wr : va_W} {a : Nat} {e0 : va_E} {pc : Nat} {lv : List (Nat × Value)} {st : List Value} (hX : Okk X Z cc n own l0 d) {C N k0 n0 C1 N1 d1 n1 idx : Nat} (hR : Rmx X C N k0 n0) (hc : k0 + C1 ≤ C) (hs : n0 + N1 ≤ N) {Post : va_W → Prop} (hnd : va_nd (List.range wr.length) = true) {y : MethodName} {b : ByteArray} (con : ConN l0 Z y b n1 d1 C1 N1 [.ref a] [(a, e0)] Post) (hy1 : y.name = "<init>") (hl : Cond.methodLink own idx y ∈ UW) (hin : Cond.instanceMethod y ∈ UW) (hini : Cond.initialized y.cls ∈ UW) (hcode : Cond.code y b n1 none ∈ UW) (hsp : y.cls ≠ "java/lang/invoke/MethodHandle" ∧ y.cls ≠ "java/lang/invoke/VarHandle" ∧ (parseMethodDescriptor y.desc).map (fun d => d.parameters.length) = some 0) (hn18 : n1 ≤ 18) (hd1 : d1 + 1 ≤ d) (hcat : (st.map fun v => v.category).sum ≤ 8) (hd : decode cc pc = .ok (.invokespecial idx, 3))
    (kk : ∀ wc1 : va_W, Post wc1 → Okk (grw X C1 N1) Z cc n own l0 d → Rmx (grw X C1 N1) C N (k0 + C1) (n0 + N1) → G (grw X C1 N1) Z (wr ++ wc1) (pc + 3) lv st) : G X Z (wr ++ [(a, e0)]) pc lv (.ref a :: st) := by
  refine g_callK hX hR hc hs hnd kk ?_
  obtain ⟨p, l, e, R, s, m, args, below, meth, c, kc, ks, Q, nL, A⟩ := X
  obtain ⟨hx, hb, hml, hown, hts, hK, hA, hlk, hE, hAB, hzB, hRm, rfl, rfl⟩ := hX
  obtain ⟨r1, r2, rfl, rfl, hEx⟩ := hR
  intro ls H locs h hPc hDc hsz hEU
  refine ⟨_, va_runI (As := []) (rest := st) ⟨hx, hb, hml, hown, hts⟩ (con H.size) (cwI 0 hts (uw_goodL _ hcode) rfl rfl rfl (hts _ hini) (hts _ hl) (hts _ hin) hy1 hsp ⟨Nat.le_trans hd1 hRm.2.2.1, ?_⟩) ⟨PcN.blind Z _ _ _, fun U hU hW => ⟨rfl, by rw [hU], by rw [hU]; exact hPc, va_K.moved hW.alike hK, hDc.weaken (fun _ q _ h => hAB _ h), by rw [hU]; exact hEU U hU hW, fun q hq => hzB q (Nat.le_trans hsz hq), hEx.warm hW⟩⟩ rfl rfl h.1 rfl (lv_room hcat) hd ⟨Nat.le_trans hc r1, Nat.le_trans hs r2⟩⟩
  show 8 + (n1 + 11) + 37 * d1 ≤ R.locals
  have := hRm.2.2.2
  omega
theorem g_callIN {X : XX} {Z : ZZ} {cc : ByteArray} {n : Nat} {own host : String} {l0 : Launch} {d : Nat} {wr : va_W} {a : Nat} {e0 : va_E} {pc : Nat} {lv : List (Nat × Value)} {st : List Value} (hX : Okk X Z cc n own l0 d) {C N k0 n0 C1 N1 d1 n1 idx : Nat} (hR : Rmx X C N k0 n0) (hc : k0 + C1 ≤ C) (hs : n0 + N1 ≤ N) {Post : va_W → Prop} (hnd : va_nd (List.range wr.length) = true) {y : MethodName} {b : ByteArray} (con : ConN l0 Z y b n1 d1 C1 N1 [.ref a] [(a, e0)] Post) (hy1 : y.name = "<init>") (hl : ∀ U, ExN U → va_Nw (.methodLinkNest own idx y host) U) (hin : Cond.instanceMethod y ∈ UW) (hini : Cond.initialized y.cls ∈ UW) (hcode : Cond.code y b n1 none ∈ UW) (hsp : y.cls ≠ "java/lang/invoke/MethodHandle" ∧ y.cls ≠ "java/lang/invoke/VarHandle" ∧ (parseMethodDescriptor y.desc).map (fun d => d.parameters.length) = some 0) (hn18 : n1 ≤ 18) (hd1 : d1 + 1 ≤ d) (hcat : (st.map fun v => v.category).sum ≤ 8) (hd : decode cc pc = .ok (.invokespecial idx, 3))
    (kk : ∀ wc1 : va_W, Post wc1 → Okk (grw X C1 N1) Z cc n own l0 d → Rmx (grw X C1 N1) C N (k0 + C1) (n0 + N1) → G (grw X C1 N1) Z (wr ++ wc1) (pc + 3) lv st) : G X Z (wr ++ [(a, e0)]) pc lv (.ref a :: st) := by
  refine g_callK hX hR hc hs hnd kk ?_
  obtain ⟨p, l, e, R, s, m, args, below, meth, c, kc, ks, Q, nL, A⟩ := X
  obtain ⟨hx, hb, hml, hown, hts, hK, hA, hlk, hE, hAB, hzB, hRm, rfl, rfl⟩ := hX
  obtain ⟨r1, r2, rfl, rfl, hEx⟩ := hR
  intro ls H locs h hPc hDc hsz hEU
  refine ⟨_, va_runIN (As := []) (rest := st) ⟨hx, hb, hml, hown, hts⟩ (con H.size) ⟨va_cnB 0 hts (uw_goodL _ hcode) rfl rfl rfl (hl s hEx) (hts _ hini) hsp ⟨Nat.le_trans hd1 hRm.2.2.1, ?_⟩, hy1, hts _ hin⟩ ⟨PcN.blind Z _ _ _, fun U hU hW => ⟨rfl, by rw [hU], by rw [hU]; exact hPc, va_K.moved hW.alike hK, hDc.weaken (fun _ q _ h => hAB _ h), by rw [hU]; exact hEU U hU hW, fun q hq => hzB q (Nat.le_trans hsz hq), hEx.warm hW⟩⟩ rfl rfl h.1 rfl (lv_room hcat) hd ⟨Nat.le_trans hc r1, Nat.le_trans hs r2⟩⟩
  show 8 + (n1 + 11) + 37 * d1 ≤ R.locals
  have := hRm.2.2.2
  omega
