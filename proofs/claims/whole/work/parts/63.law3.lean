/-! ===== the law's world, and its calls ===== -/
def lawW (cI cL cM : ClassId) (a : Nat → Nat) (o : Nat) (bb : Nat → Nat) (x : Mx) (f : Nat → Int64) (u : RS) : va_W := wrW cI cL cM a o x f ++ rfW cI bb u
theorem segP0 (C C' Y : va_W) {k : Nat} (hk : C.length = k) (h : C'.length = C.length) : putW (C ++ Y) (segI 0 k) C' = C' ++ Y := by
  subst hk
  exact putW_seg C C' [] Y h
theorem segC0 (C Y : va_W) {k : Nat} (hk : C.length = k) : (segI 0 k).map (fun i => (C ++ Y)[i]?) = C.map some := by
  subst hk
  exact segC C [] Y
theorem segP1 (X C C' : va_W) {k n : Nat} (hk : X.length = k) (hn : C.length = n) (h : C'.length = C.length) : putW (X ++ C) (segI k n) C' = X ++ C' := by
  subst hk
  subst hn
  have q := putW_seg C C' X [] h
  rw [List.append_nil, List.append_nil] at q
  exact q
theorem segC1 (X C : va_W) {k n : Nat} (hk : X.length = k) (hn : C.length = n) : (segI k n).map (fun i => (X ++ C)[i]?) = C.map some := by
  subst hk
  subst hn
  have q := segC C X []
  rw [List.append_nil] at q
  exact q
section LAWW
variable (cI cL cM : ClassId) (a : Nat → Nat) (o : Nat) (bb : Nat → Nat) (x x' : Mx) (f f' : Nat → Int64) (u u' : RS)
theorem mxW_len : (mxW cI cL cM a x).length = 35 := rfl
theorem wrW_len : (wrW cI cL cM a o x f).length = 36 := by unfold wrW; rw [List.length_append, mxW_len]; rfl
theorem rfW_len : (rfW cI bb u).length = 13 := rfl
theorem lawW_wrC : (segI 0 36).map (fun i => (lawW cI cL cM a o bb x f u)[i]?) = (wrW cI cL cM a o x f).map some := segC0 _ _ (wrW_len cI cL cM a o x f)
theorem lawW_wrP : putW (lawW cI cL cM a o bb x f u) (segI 0 36) (wrW cI cL cM a o x' f') = lawW cI cL cM a o bb x' f' u := segP0 _ _ _ (wrW_len cI cL cM a o x f) ((wrW_len cI cL cM a o x' f').trans (wrW_len cI cL cM a o x f).symm)
theorem lawW_as : lawW cI cL cM a o bb x f u = mxW cI cL cM a x ++ ([(o, .inl (cL, 1, .inr (.inl f)))] ++ rfW cI bb u) := by unfold lawW wrW; rw [List.append_assoc]
theorem lawW_mxC : (segI 0 35).map (fun i => (lawW cI cL cM a o bb x f u)[i]?) = (mxW cI cL cM a x).map some := by rw [lawW_as]; exact segC0 _ _ (mxW_len cI cL cM a x)
theorem lawW_mxP : putW (lawW cI cL cM a o bb x f u) (segI 0 35) (mxW cI cL cM a x') = lawW cI cL cM a o bb x' f u := by rw [lawW_as, lawW_as]; exact segP0 _ _ _ (mxW_len cI cL cM a x) ((mxW_len cI cL cM a x').trans (mxW_len cI cL cM a x).symm)
theorem lawW_rfC : (segI 36 13).map (fun i => (lawW cI cL cM a o bb x f u)[i]?) = (rfW cI bb u).map some := segC1 _ _ (wrW_len cI cL cM a o x f) (rfW_len cI bb u)
theorem lawW_rfP : putW (lawW cI cL cM a o bb x f u) (segI 36 13) (rfW cI bb u') = lawW cI cL cM a o bb x f u' := segP1 _ _ _ (wrW_len cI cL cM a o x f) (rfW_len cI bb u) ((rfW_len cI bb u').trans (rfW_len cI bb u).symm)
theorem seg36 : va_nd (segI 0 36) = true := rfl
theorem seg13 : va_nd (segI 36 13) = true := rfl
theorem wrW_fst : (wrW cI cL cM a o x' f').map Prod.fst = (wrW cI cL cM a o x f).map Prod.fst := rfl
theorem rfW_fst : (rfW cI bb u').map Prod.fst = (rfW cI bb u).map Prod.fst := rfl
theorem mxW_0 : (mxW cI cL cM a x)[0]? = some (a 0, .inr (4, [.ref (a 1), .ref (a 3), .ref (a 5), .ref (a 7), .ref (a 10)])) := rfl
theorem rfW_0 : (rfW cI bb u)[0]? = some (bb 0, .inr (5, [.int (r_th u), .int (nI (r_n u)), .ref (bb 1), .ref (bb 2), .ref (bb 3), .int (nI (r_sz u)), .ref (bb 4), .ref (bb 5), .ref (bb 6), .ref (bb 7), .ref (bb 8), .ref (bb 9), .ref (bb 10), .int (nI (r_nd u)), .int (r_ob u), .long (r_er u), .int (nI (r_cs u)), .ref (bb 11), .int (nI (r_mk u)), .ref (bb 12), .long (r_lw u), .long (r_hg u)])) := rfl
theorem lawW_35 : (lawW cI cL cM a o bb x f u)[35]? = some (o, .inl (cL, 1, .inr (.inl f))) := by
  unfold lawW
  rw [List.getElem?_append_left (by rw [wrW_len]; omega)]
  exact wrW_35 cI cL cM a o x f
end LAWW
theorem evN_warm {s U : State} (hW : s.WarmedH U.vm) (h : evN s) : evN U := ⟨va_Nc.moved hW.alike h.1, va_Nc.moved hW.alike h.2⟩
theorem hoW_blind {D : va_G} {T : List (ClassId × FieldType)} {A : Nat → Prop} {sa : Nat → Nat} {ws : va_W} {av : List Value} : FrameBlind (va_Pc av (hoW D T A sa ws)) := fun a U g mk q => ⟨q.1, ⟨q.2.1.1, evX_same (s := U) (U := U.calling g mk a) rfl rfl q.2.1.2.1, q.2.1.2.2.1, q.2.1.2.2.2⟩, va_Nc.moved (u := U) (U := U.calling g mk a) (Vm.Alike.refl U.vm) q.2.2.1, va_Nc.moved (u := U) (U := U.calling g mk a) (Vm.Alike.refl U.vm) q.2.2.2⟩
section THR9
variable {p : Program} {l : Launch} {e : Env} {R : Room} {s : State} {m : MethodId} {args : Array Value} {below : List Frame} {meth : Method} {c : Code} {H : Heap} {locs : List Loc} {cells slots : Nat} {Q : State → Prop}
variable {y : MethodName} {bytes cc : ByteArray} {maxL nL n index pc : Nat} {ret : Option FieldType} {wy : List Cond} {rm : Room} {Ts : List Cond} {own : String} {As rest st0 : List Value} {ls : Array Slot} {D : va_G} {T : List (ClassId × FieldType)} {A : Nat → Prop} {sa : Nat → Nat} {ws wc w1 : va_W} {hh : List (Nat × Nat × Nat × Nat)}
theorem kW {r : Int32} (S : CallFix p m c cc nL s args Ts own) (hM : mW l y wy rm D T (va_A wc H.size) sa As wc r w1) (cw : vx_CSW R s args own index y bytes maxL ret hh wy rm 3 18 n)
    (hE : evX D T A sa s) (hN : evN s) (hP : va_P D vwCl ws H) (hD : va_D A ws) (hS : va_S A s.heap H locs) (hA : ∀ q, s.heap.size ≤ q → A q) (is : List Nat) (hn : va_nd is = true) (hC : is.map (fun i => ws[i]?) = wc.map some) (hf : w1.map Prod.fst = wc.map Prod.fst)
    (hl : As.length = n) (hsize : ls.size = nL) (hst : st0 = As.reverse ++ rest) (hr : (rest.map fun v => v.category).sum ≤ 8) (hdg : decode cc pc = .ok (.invokestatic index, 3)) (hfit : cells + 3 ≤ R.cells ∧ slots + 18 ≤ R.slots)
    (kk : ∀ (H : Heap) (locs : List Loc), va_P D vwCl (putW ws is w1) H → va_D A (putW ws is w1) → va_S A s.heap H locs → W p l e R s m args below meth c H locs (cells + 3) (slots + 18) Q (F0 m (pc + 3) ls (.int r :: rest))) : W p l e R s m args below meth c H locs cells slots Q (F0 m pc ls st0) :=
  vx_calli (vx_runSX S hM cw ⟨hoW_blind, fun _ hU hW => ⟨rfl, hoX_sub hE hP hD hS hA hn hC hU hW, evN_warm hW hN⟩⟩ rfl hl hsize hst (lv_room hr) hdg hfit) hS (fun q _ h => free_A hD hS hA hC q h) (free_A hD hS hA hC) (fun q _ h => free_A hD hS hA hC q h)
    (fun _ _ _ _ _ _ _ _ _ hp _ _ _ _ _ _ _ => hp.elim)
    (fun r1 _ t H1 locs1 ht _ hp hB _ hk hS1 => by
      obtain rfl := hp
      obtain ⟨g1, g2⟩ := lift1 hP hD hC hf hk (by rw [← ht]; exact hB.1)
      exact kk H1 locs1 g1 g2 hS1)
end THR9
abbrev lvL (n sb o : Nat) (a bb : Nat → Nat) : List (Nat × Value) := [(4, .int (nI (4 * n))), (3, .ref o), (2, .ref (bb 0)), (1, .ref (a 0)), (0, .ref sb)]
def LCx (p : Program) (l : Launch) (s : State) (m : MethodId) (c : Code) (sb L : Nat) (xs : Nat → Int32) (D : va_G) (cI cL cM : ClassId) (sa : Nat → Nat) (A : Nat → Prop) : Prop := (l.stackTraces = false ∧ p.tables.exec = Jvm.exec ∧ c.code = cL_law ∧ c.maxLocals = 9 ∧ s.vm.findClass RL = some m.cls) ∧ (∀ w ∈ wsL_law, w.before #[Value.ref sb] s = true) ∧ evX D (tB cI cL cM) A sa s ∧ evN s ∧ va_X sb L xs s s.heap ∧ sb < s.heap.size ∧ ¬ A sb ∧ (∀ q, s.heap.size ≤ q → A q) ∧ L ≤ 2048
def NX (p : Program) (l : Launch) (e : Env) (s : State) (m : MethodId) (below : List Frame) (meth : Method) (c : Code) (sb : Nat) (D : va_G) (cI cL cM : ClassId) (A : Nat → Prop) (a : Nat → Nat) (o : Nat) (bb : Nat → Nat) (cells slots n : Nat) (Q : State → Prop) : Prop := ∀ (x : Mx) (f : Nat → Int64) (u : RS) (H : Heap) (locs : List Loc) (ls : Array Slot), Rel x u (n + 1) → va_P D vwCl (lawW cI cL cM a o bb x f u) H → va_D A (lawW cI cL cM a o bb x f u) → va_S A s.heap H locs → lv_has ls 9 (lvL n sb o a bb) → W p l e room_1 s m #[Value.ref sb] below meth c H locs (cells + 3) (slots + 18) Q (F0 m 1589 ls [])
theorem sc_in {n L k : Nat} (hL : L ≤ 2048) (h : 4 * n + 4 ≤ L) (hk : k ≤ 3) : vp_in (nI (4 * n) + nI k) L := by
  rw [nI_add]
  exact vin (by rw [nI_toInt (by omega)]; omega) (by rw [nI_toInt (by omega)]; omega)
section RELS
variable {x : Mx} {u : RS} {c : Nat}
theorem Rel.tc (h : Rel x u c) : q_c (x_tx x) ≤ 80 := by rw [h.2.2.1.1.1]; exact h.2.2.1.2.2
theorem Rel.ec (h : Rel x u c) : q_c (x_en x) ≤ 2564 := by rw [h.2.2.2.1.1.1]; exact h.2.2.2.1.2.2
theorem Rel.dc (h : Rel x u c) : q_c (x_de x) ≤ 80 := by rw [h.2.2.2.2.1.1]; exact h.2.2.2.2.2
theorem Rel.sz (h : Rel x u c) : r_sz u ≤ 80 := h.2.2.1.2.2
theorem Rel.cs (h : Rel x u c) : r_cs u ≤ 3000 := Nat.le_trans h.2.2.2.1.2.2 (Nat.le_of_ble_eq_true rfl)
theorem Rel.mk (h : Rel x u c) : r_mk u ≤ 80 := h.2.2.2.2.2
theorem Rel.n6 (h : Rel x u c) : k_n (x_pr x) ≤ 6 := h.pv.1.2
theorem Rel.rn6 (h : Rel x u c) : r_n u ≤ 6 := by rw [← h.n]; exact h.pv.1.2
theorem Rel.J (h : Rel x u c) : Jv9 (k_rs (x_pr x)) := ⟨_, rs_PV (PV_SH h.pv)⟩
theorem Rel.I (h : Rel x u c) : Iv9 (r_clr (rs_th u 0)) := ⟨_, rs_PV (SH_th 0 (PV_SH h.pv))⟩
end RELS
