/-! THE CALCULUS: a judgement whose goal shows the world, the place, the locals and the stack alone; a row an instruction -/
abbrev ZZ : Type := va_G × ClassId × ClassId × (Nat → Nat) × (Nat → Nat) × (Nat → Prop)
abbrev zD (Z : ZZ) : va_G := Z.1
abbrev zI (Z : ZZ) : ClassId := Z.2.1
abbrev zJ (Z : ZZ) : ClassId := Z.2.2.1
abbrev zB (Z : ZZ) : Nat → Prop := Z.2.2.2.2.2
abbrev tys (Z : ZZ) : List (ClassId × FieldType) := [(zI Z, .int), (zJ Z, .array .int)]
-- the literals
def sOw : Nat → String := fun i => match i with
  | 5 => "NeverBothDoorsModel"
  | _ => "NeverBothDoors$Text"
def sIx : Nat → Nat := fun i => match i with
  | 0 => 50 | 1 => 52 | 2 => 54 | 3 => 56 | 4 => 58 | _ => 119
def sTx : Nat → String := fun i => match i with
  | 0 => "#,#??;" | 1 => "##;" | 2 => "####;" | 3 => "@##,#?;" | 4 => "" | _ => "pcwhts"
abbrev sByt : List (List Int32) := [[35, 44, 35, 63, 63, 59], [35, 35, 59], [35, 35, 35, 35, 59], [64, 35, 35, 44, 35, 63, 59], [], [112, 99, 119, 104, 116, 115]]
abbrev sLen : List Nat := [6, 3, 5, 7, 0, 6]
/-- what stays as it is: links between nest mates, the literals, two statics -/
def EN (Z : ZZ) (U : State) (H : Heap) : Prop :=
  (va_Nw (.methodLinkNest "NeverBothDoors$Text" 60 yX_kindOf "NeverBothDoors") U ∧ va_Nw (.methodLinkNest "NeverBothDoors$Burrow" 73 yX_isRoom "NeverBothDoors") U ∧ va_Nw (.methodLinkNest "NeverBothDoors$Burrow" 77 yX_isPlace "NeverBothDoors") U ∧ va_Nw (.methodLinkNest "NeverBothDoors$Burrow" 96 yX_breathOfKind "NeverBothDoors") U ∧ va_Nw (.methodLinkNest "NeverBothDoors$Ways" 44 yX_isPlace "NeverBothDoors") U) ∧
  (∀ i, i < 6 → vk_R (sOw i) (sIx i) (sTx i) (Z.2.2.2.1 i) U) ∧ vk_S 6 sLen sByt Z.2.2.2.1 Z.2.2.2.2.1 (zB Z) U H ∧ va_Z "java/lang/String" "COMPACT_STRINGS" "Z" (.int 1) (zB Z) U H ∧ va_Zq "jdk/internal/util/Preconditions" "SIOOBE_FORMATTER" "Ljava/util/function/BiFunction;" (zB Z) U H
theorem EN.kept {Z : ZZ} {U : State} {H H1 : Heap} (h : EN Z U H) (hq : ∀ a : Nat, a < H.size → ¬ zB Z a → H1[a]? = H[a]?) : EN Z U H1 :=
  ⟨h.1, h.2.1, h.2.2.1.kept hq, h.2.2.2.1.kept hq, h.2.2.2.2.kept hq⟩
theorem EN.warm {Z : ZZ} {s U : State} {H : Heap} (hW : s.WarmedH U.vm) (h : EN Z s H) : EN Z U H :=
  ⟨⟨va_Nw.warmM hW h.1.1, va_Nw.warmM hW h.1.2.1, va_Nw.warmM hW h.1.2.2.1, va_Nw.warmM hW h.1.2.2.2.1, va_Nw.warmM hW h.1.2.2.2.2⟩, fun i hi => (h.2.1 i hi).warm hW, h.2.2.1.moved hW.alike, h.2.2.2.1.moved hW.alike, h.2.2.2.2.moved hW.alike⟩
theorem EN.same {Z : ZZ} {u U : State} {H : Heap} (hv : U.vm = u.vm) (h : EN Z u H) : EN Z U H :=
  ⟨⟨va_Nw.same rfl hv.symm h.1.1, va_Nw.same rfl hv.symm h.1.2.1, va_Nw.same rfl hv.symm h.1.2.2.1, va_Nw.same rfl hv.symm h.1.2.2.2.1, va_Nw.same rfl hv.symm h.1.2.2.2.2⟩, fun i hi => (h.2.1 i hi).same hv, h.2.2.1.moved (by rw [hv]; exact Vm.Alike.refl _), h.2.2.2.1.moved (by rw [hv]; exact Vm.Alike.refl _), h.2.2.2.2.moved (by rw [hv]; exact Vm.Alike.refl _)⟩
-- worlds
theorem va_D_keys {A : Nat → Prop} {ws ws' : va_W} (hk : ws'.map (·.1) = ws.map (·.1)) (h : va_D A ws) : va_D A ws' := by
  have key : ∀ (k : Nat) (q : Nat × va_E), ws'[k]? = some q → ∃ q0, ws[k]? = some q0 ∧ q0.1 = q.1 := by
    intro k q hq
    have h1 : (ws'.map (·.1))[k]? = some q.1 := by rw [List.getElem?_map, hq]; rfl
    rw [hk, List.getElem?_map] at h1
    cases hw : ws[k]? with
    | none => rw [hw] at h1; cases h1
    | some q0 => rw [hw] at h1; exact ⟨q0, rfl, Option.some.inj h1⟩
  refine ⟨fun i j x y hi hj hxy => ?_, fun k q hq => ?_⟩
  · obtain ⟨x0, a1, a2⟩ := key i x hi
    obtain ⟨y0, b1, b2⟩ := key j y hj
    exact h.1 i j x0 y0 a1 b1 (a2.trans (hxy.trans b2.symm))
  · obtain ⟨q0, a1, a2⟩ := key k q hq
    rw [← a2]
    exact h.2 k q0 a1
def putW : va_W → List Nat → va_W → va_W
  | ws, i :: is, x :: xs => putW (ws.set i x) is xs
  | ws, _, _ => ws
theorem putW_P {D : va_G} {cl : List vw_C} {H1 : Heap} : ∀ (is : List Nat) (ws wc' : va_W), is.length = wc'.length → (∀ (k : Nat) (q : Nat × va_E), ws[k]? = some q → k ∉ is → va_at D cl q H1) → va_P D cl wc' H1 → va_P D cl (putW ws is wc') H1
  | [], ws, _, _, h, _ => by
    rw [show putW ws [] _ = ws from by cases ‹va_W› <;> rfl]
    exact fun k q hq => h k q hq (by simp)
  | i :: is, ws, [], hl, _, _ => by simp at hl
  | i :: is, ws, x :: xs, hl, h, hP => by
    show va_P D cl (putW (ws.set i x) is xs) H1
    refine putW_P is _ xs (by simpa using hl) (fun k q hq hk => ?_) (fun k q hq => hP (k + 1) q (by simpa using hq))
    by_cases hki : k = i
    · subst hki
      have hlt : k < ws.length := by
        have := (List.getElem?_eq_some_iff.mp hq).1
        simpa using this
      rw [List.getElem?_set_self hlt] at hq
      cases hq
      exact hP 0 x rfl
    · rw [List.getElem?_set_ne (Ne.symm hki)] at hq
      exact h k q hq (by simp [hki, hk])
theorem putW_keys : ∀ (is : List Nat) (ws wc' : va_W), is.map (fun i => (ws.map (·.1))[i]?) = wc'.map (fun q => some q.1) → (putW ws is wc').map (·.1) = ws.map (·.1)
  | [], ws, wc', _ => by rw [show putW ws [] wc' = ws from by cases wc' <;> rfl]
  | i :: is, ws, [], h => by simp at h
  | i :: is, ws, x :: xs, h => by
    rw [List.map_cons, List.map_cons] at h
    obtain ⟨h1, h2⟩ := List.cons.inj h
    have hs : (ws.set i x).map (·.1) = ws.map (·.1) := by
      rw [List.map_set]
      apply List.ext_getElem?
      intro k
      by_cases hk : k = i
      · subst hk
        rw [h1]
        have hlt : k < (ws.map (·.1)).length := (List.getElem?_eq_some_iff.mp h1).1
        rw [List.getElem?_set_self hlt]
      · rw [List.getElem?_set_ne (Ne.symm hk)]
    show (putW (ws.set i x) is xs).map (·.1) = _
    rw [putW_keys is _ xs (by rw [hs]; exact h2), hs]
-- contracts
abbrev rmD (d : Nat) : Room := { frames := d, cells := 0, slots := 0, locals := 37 * d }
def PcZ (Z : ZZ) (As : List Value) (ws : va_W) (sz : Nat) : Array Value → State → Prop := va_Pc As (fun U => U.heap.size = sz ∧ va_P (zD Z) classes ws U.heap ∧ va_K (zD Z) classes (tys Z) U ∧ va_D (zB Z) ws ∧ EN Z U U.heap ∧ ∀ q, sz ≤ q → zB Z q)
def QcZ (Z : ZZ) (ws : va_W) (sz : Nat) (Post : Option Value → va_W → Prop) : Array Value → State → Outcome → State → Prop := fun _ st oc t => (∃ (v : Option Value) (ws' : va_W), oc = .returned v ∧ Post v ws' ∧ ws'.map (·.1) = ws.map (·.1) ∧ va_P (zD Z) classes ws' t.heap) ∧ va_F (va_A ws sz) st t
def Con (l : Launch) (Z : ZZ) (y : MethodName) (b : ByteArray) (n : Nat) (ret : Option FieldType) (d : Nat) (As : List Value) (ws : va_W) (Post : Option Value → va_W → Prop) : Prop :=
  ∀ sz, Met l y (.code y b n ret :: UW) (rmD d) (PcZ Z As ws sz) (QcZ Z ws sz Post) 0 0 (va_A ws sz)
theorem PcZ.blind (Z : ZZ) (As : List Value) (ws : va_W) (sz : Nat) : FrameBlind (PcZ Z As ws sz) := fun a U g mk q => by
  obtain ⟨q0, q1, qP, qK, qD, qE, qB⟩ := q
  exact ⟨q0, q1, qP, va_K.moved (u := U) (U := U.calling g mk a) (Vm.Alike.refl U.vm) qK, qD, EN.same (u := U) rfl qE, qB⟩
-- the judgement
abbrev XX : Type := Program × Launch × Env × Room × State × MethodId × Array Value × List Frame × Method × Code × Nat × Nat × (State → Prop) × Nat × (Nat → Prop)
def G : XX → ZZ → va_W → Nat → List (Nat × Value) → List Value → Prop
  | (p, l, e, R, s, m, args, below, meth, c, kc, ks, Q, nL, A), Z, ws, pc, lv, st => ∀ (ls : Array Slot) (H : Heap) (locs : List Loc), lv_has ls nL lv → va_P (zD Z) classes ws H → va_D A ws → va_S A s.heap H locs → W p l e R s m args below meth c H locs kc ks Q (F0 m pc ls st)
/-- the standing facts of a body: its code, its class, its locals, its launch, its depth -/
def Okk : XX → ZZ → ByteArray → Nat → String → Launch → Nat → Prop
  | (p, l, e, R, s, m, args, below, meth, c, kc, ks, Q, nL, A), Z, cc, n, own, l0, d => p.tables.exec = Jvm.exec ∧ c.code = cc ∧ c.maxLocals = nL ∧ s.vm.findClass own = some m.cls ∧ (∀ w ∈ UW, w.before args s = true) ∧ va_K (zD Z) classes (tys Z) s ∧ (∀ q, s.heap.size ≤ q → A q) ∧ meth.locks = false ∧ EN Z s s.heap ∧ (∀ q, A q → zB Z q) ∧ (∀ q, s.heap.size ≤ q → zB Z q) ∧ (kc ≤ R.cells ∧ ks ≤ R.slots ∧ d ≤ R.frames ∧ 37 * d ≤ R.locals) ∧ n = nL ∧ l0 = l
/-- what a body's end must bring -/
def Ret : XX → ZZ → va_W → (Option Value → va_W → Prop) → Option FieldType → Prop
  | (_, _, _, _, s, _, args, below, meth, _, kc, ks, Q, _, A), Z, ws, Post, ret => Q = MQ below (QcZ Z ws s.heap.size Post) args s 0 0 A ∧ A = va_A ws s.heap.size ∧ meth.sig.returnType = ret ∧ kc = 0 ∧ ks = 0
theorem Con.of {l : Launch} {Z : ZZ} {y : MethodName} {b : ByteArray} {n : Nat} {ret : Option FieldType} {d : Nat} {As : List Value} {ws : va_W} {Post : Option Value → va_W → Prop} (hy : plainName y.cls = true) (hn : (lg_sl As).length ≤ n)
    (body : ∀ X : XX, Okk X Z b n y.cls l d → Ret X Z ws Post ret → G X Z ws 0 (lv_args 0 As) []) : Con l Z y b n ret d As ws Post := by
  intro sz
  refine Met.ofW (cc := b) (maxL := n) (ret := ret) hy rfl ?_
  intro p e s m args below meth c s₁ B hml hv
  obtain ⟨rfl, hsz, hP, hK, hD0, hE, hB⟩ := hv
  have hx := B.exec
  have hb := B.bytes
  have hr := B.returns
  have hts := atoms_spec (ws := .code y b n ret :: UW) B.pre
  have hown : s.vm.findClass y.cls = some m.cls := findClass_of_methodNamed B.named
  have hlocks := B.notSynchronized
  subst hsz
  have hg := body (p, l, e, rmD d, s, m, As.toArray, below, meth, c, 0, 0, MQ below (QcZ Z ws s.heap.size Post) As.toArray s 0 0 (va_A ws s.heap.size), n, va_A ws s.heap.size)
    ⟨hx, hb, hml, hown, fun w hw => hts w (List.mem_cons_of_mem _ hw), hK, fun q h => Or.inr h, hlocks, hE, fun q h => by
      rcases h with ⟨k, e9, h⟩ | h
      · exact hD0.2 k (q, e9) h
      · exact hB q h, hB, ⟨Nat.le_refl _, Nat.le_refl _, Nat.le_refl _, Nat.le_refl _⟩, rfl, rfl⟩
    ⟨rfl, rfl, hr, rfl, rfl⟩
  have hl := lv_entry As (n := n) hn
  rw [lg_entry_eq]
  exact hg _ s.heap [] hl hP hD0.self va_S.rf
