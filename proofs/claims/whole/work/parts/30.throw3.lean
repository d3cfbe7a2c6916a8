/-! ===== calls of methods that throw ===== -/
def mIx (l : Launch) (y : MethodName) (wy : List Cond) (rm : Room) (D : va_G) (T : List (ClassId × FieldType)) (A : Nat → Prop) (sa : Nat → Nat) (av : List Value) (ws : va_W) (r : Int32) (ws' : va_W) (OK : Prop) (TH : String → Prop) : Prop :=
  vx_Met l y wy rm (va_Pc av (hoX D T A sa ws)) (va_Qi (fun x (_ : Unit) => x = r ∧ OK) (fun _ t => hq D A ws' t) A) (vx_X (fun (_ : Unit) => True) (fun E _ t => TH E ∧ hq D A ws t) A) 1 6 A
section THR
variable {p : Program} {l : Launch} {e : Env} {R : Room} {s : State} {m : MethodId} {args : Array Value} {below : List Frame} {meth : Method} {c : Code} {H : Heap} {locs : List Loc} {cells slots : Nat} {Q : State → Prop}
variable {y : MethodName} {bytes cc : ByteArray} {maxL nL n index pc : Nat} {ret : Option FieldType} {wy : List Cond} {rm : Room} {Ts : List Cond} {own C : String} {b : Addr} {As rest st0 : List Value} {ls : Array Slot} {D : va_G} {T : List (ClassId × FieldType)} {A : Nat → Prop} {sa : Nat → Nat} {ws wc w1 : va_W} {H0 : Heap}
variable {Qc : Array Value → State → Outcome → State → Prop} {XC : String → State → State → Prop}
/-- runs: the callee's cells cut out of the caller's -/
theorem xS (S : CallFix p m c cc nL s args Ts own) (hM : vx_Met l y wy rm (va_Pc As (hoX D T (va_A wc H.size) sa wc)) Qc XC 1 6 (va_A wc H.size)) (cw : CallB R s args own index y bytes maxL ret wy rm 1 6 n ∧ (Cond.static y).before args s = true)
    (hE : evX D T A sa s) (hP : va_P D vwCl ws H) (hD : va_D A ws) (hS : va_S A s.heap H locs) (hA : ∀ q, s.heap.size ≤ q → A q) (is : List Nat) (hn : va_nd is = true) (hC : is.map (fun i => ws[i]?) = wc.map some)
    (hl : As.length = n) (hsize : ls.size = nL) (hst : st0 = As.reverse ++ rest) (hr : (rest.map fun v => v.category).sum ≤ 8) (hdg : decode cc pc = .ok (.invokestatic index, 3)) (hf : cells + 1 ≤ R.cells ∧ slots + 6 ≤ R.slots) :
    vx_Run p l e R s m args below meth c H locs cells slots 1 6 (F0 m pc ls st0) rest (Qc As.toArray) XC (va_A wc H.size) :=
  vx_runS S hM cw ⟨hoX_blind, fun _ hU hW => ⟨rfl, hoX_sub hE hP hD hS hA hn hC hU hW⟩⟩ rfl hl hsize hst (lv_room hr) hdg hf
theorem xVa (S : CallFix p m c cc nL s args Ts own) (hM : vx_Met l y wy rm (va_Pc (.ref b :: As) (hoX D T A sa ws)) Qc XC 1 6 A) (cw : CallW R s args own C index y bytes maxL ret wy rm 1 6 n)
    (hE : evX D T A sa s) (hP : va_P D vwCl ws H) (hD : va_D A ws) (hS : va_S A s.heap H locs) (hA : ∀ q, s.heap.size ≤ q → A q) (q0 : Nat) {ci : Nat} {T0 : u_T} {N : Nat} {fs : List Value} (hc : vwCl[ci]? = some (C, T0, N)) (he : ws[q0]? = some (b, .inr (ci, fs)))
    (hl : As.length = n) (hsize : ls.size = nL) (hst : st0 = As.reverse ++ .ref b :: rest) (hr : (rest.map fun v => v.category).sum ≤ 8) (hdg : decode cc pc = .ok (.invokevirtual index, 3)) (hf : cells + 1 ≤ R.cells ∧ slots + 6 ≤ R.slots) :
    vx_Run p l e R s m args below meth c H locs cells slots 1 6 (F0 m pc ls st0) rest (Qc (Value.ref b :: As).toArray) XC A :=
  vx_runV S hM cw ⟨hoX_blind, va_recv hE.1.1 hP hc he, fun _ hU hW => ⟨rfl, hoX_all hE hP hD hS hA hU hW⟩⟩ rfl hl hsize hst (lv_room hr) hdg hf
end THR
