/-! small facts for the walks -/
theorem inc_nat (i : Nat) : nI i + Int32.ofInt 1 = nI (i + 1) := by rw [lit1]; exact nI_1 i
theorem inc_raw (x : Int32) : x + Int32.ofInt 1 = x + 1 := by rw [lit1]
theorem ne_toInt {x k : Int32} {z : Int} (h : ¬ x = k) (hk : k.toInt = z) : x.toInt ≠ z := fun q => h (Int32.toInt_inj.mp (q.trans hk.symm))
def mx (a b : Int32) : Int32 := if a < b then b else a
def mn (a b : Int32) : Int32 := if b < a then b else a
theorem r_iret {X : XX} {Z : ZZ} {cc : ByteArray} {n : Nat} {own : String} {l0 : Launch} {d : Nat} {ws : va_W} {pc : Nat} {lv : List (Nat × Value)} (hX : Okk X Z cc n own l0 d) {ws0 : va_W} {Post : Option Value → va_W → Prop} (hQ : Ret X Z ws0 Post (some .int)) {v : Int32} (hd : decode cc pc = .ok (.ireturn, 1)) (hk : ws.map (·.1) = ws0.map (·.1)) (hp : Post (some (.int v)) ws) : G X Z ws pc lv [.int v] := g_iret (st := []) hX hQ hd hk hp
theorem r_zret {X : XX} {Z : ZZ} {cc : ByteArray} {n : Nat} {own : String} {l0 : Launch} {d : Nat} {ws : va_W} {pc : Nat} {lv : List (Nat × Value)} (hX : Okk X Z cc n own l0 d) {ws0 : va_W} {Post : Option Value → va_W → Prop} {ty : FieldType} (hQ : Ret X Z ws0 Post (some ty)) {v : Int32} (hn : narrow ty (.int v) = .int v) (hd : decode cc pc = .ok (.ireturn, 1)) (hk : ws.map (·.1) = ws0.map (·.1)) (hp : Post (some (.int v)) ws) : G X Z ws pc lv [.int v] := g_zret (st := []) hX hQ hn hd hk hp
theorem r_vret {X : XX} {Z : ZZ} {cc : ByteArray} {n : Nat} {own : String} {l0 : Launch} {d : Nat} {ws : va_W} {pc : Nat} {lv : List (Nat × Value)} (hX : Okk X Z cc n own l0 d) {ws0 : va_W} {Post : Option Value → va_W → Prop} (hQ : Ret X Z ws0 Post none) (hd : decode cc pc = .ok (.return_, 1)) (hk : ws.map (·.1) = ws0.map (·.1)) (hp : Post none ws) : G X Z ws pc lv [] := g_vret (st := []) hX hQ hd hk hp
theorem g_nam {X : XX} {Z : ZZ} {ws : va_W} {pc : Nat} {lv : List (Nat × Value)} {st : List Value} {x : Int32} (k : ∀ y : Int32, y = x → G X Z ws pc lv (.int y :: st)) : G X Z ws pc lv (.int x :: st) := k x rfl
def sr (S : St) (k : Nat) (f : Nat → Int32) : St := fun a => if a = k then f else S a
theorem sr_eq (S : St) (k : Nat) (f : Nat → Int32) : sr S k f k = f := if_pos rfl
theorem sr_ne (S : St) {k a : Nat} (f : Nat → Int32) (h : a ≠ k) : sr S k f a = S a := if_neg h
