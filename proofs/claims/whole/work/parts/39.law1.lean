/-! ===== the law's wrappers: the class beside the row for the answer ===== -/
def wrW (cI cL cM : ClassId) (a : Nat → Nat) (o : Nat) (x : Mx) (f : Nat → Int64) : va_W := mxW cI cL cM a x ++ [(o, .inl (cL, 1, .inr (.inl f)))]
theorem segC : ∀ (C X Y : va_W), (segI X.length C.length).map (fun i => (X ++ (C ++ Y))[i]?) = C.map some
  | [], X, Y => rfl
  | c :: C, X, Y => by
    have q := segC C (X ++ [c]) Y
    rw [show (X ++ [c]).length = X.length + 1 from by simp, show (X ++ [c]) ++ (C ++ Y) = X ++ (c :: (C ++ Y)) from by simp] at q
    show (X ++ (c :: (C ++ Y)))[X.length]? :: (segI (X.length + 1) C.length).map (fun i => (X ++ (c :: (C ++ Y)))[i]?) = some c :: C.map some
    rw [q, List.getElem?_append_right (Nat.le_refl _), Nat.sub_self]
    rfl
section WRW
variable (cI cL cM : ClassId) (a : Nat → Nat) (o : Nat) (x x' : Mx) (f : Nat → Int64)
theorem wrW_mxC : (segI 0 35).map (fun i => (wrW cI cL cM a o x f)[i]?) = (mxW cI cL cM a x).map some := segC (mxW cI cL cM a x) [] [(o, .inl (cL, 1, .inr (.inl f)))]
theorem wrW_mxP : putW (wrW cI cL cM a o x f) (segI 0 35) (mxW cI cL cM a x') = wrW cI cL cM a o x' f := putW_seg (mxW cI cL cM a x) (mxW cI cL cM a x') [] [(o, .inl (cL, 1, .inr (.inl f)))] rfl
theorem seg35 : va_nd (segI 0 35) = true := rfl
theorem mxW_fst : (mxW cI cL cM a x').map Prod.fst = (mxW cI cL cM a x).map Prod.fst := rfl
theorem wrW_35 : (wrW cI cL cM a o x f)[35]? = some (o, .inl (cL, 1, .inr (.inl f))) := rfl
theorem wrW_0 : (wrW cI cL cM a o x f)[0]? = some (a 0, .inr (4, [.ref (a 1), .ref (a 3), .ref (a 5), .ref (a 7), .ref (a 10)])) := rfl
theorem wrW_set (f' : Nat → Int64) : (wrW cI cL cM a o x f).set 35 (o, .inl (cL, 1, .inr (.inl f'))) = wrW cI cL cM a o x f' := by
  unfold wrW
  rw [List.set_append_right _ _ (show (mxW cI cL cM a x).length ≤ 35 from Nat.le_refl 35)]
  rfl
end WRW
def evN (U : State) : Prop := va_Nc ISE IAE U ∧ va_Nc IAE IOB U
def hoW (D : va_G) (T : List (ClassId × FieldType)) (A : Nat → Prop) (sa : Nat → Nat) (ws : va_W) (U : State) : Prop := hoX D T A sa ws U ∧ evN U
def mW (l : Launch) (y : MethodName) (wy : List Cond) (rm : Room) (D : va_G) (T : List (ClassId × FieldType)) (A : Nat → Prop) (sa : Nat → Nat) (av : List Value) (ws : va_W) (r : Int32) (ws' : va_W) : Prop :=
  vx_Met l y wy rm (va_Pc av (hoW D T A sa ws)) (va_Qi (fun x (_ : Unit) => x = r) (fun _ t => hq D A ws' t) A) (vx_X (fun (_ : Unit) => False) (fun _ _ _ => False) A) 3 18 A
section THR6
variable {p : Program} {l : Launch} {e : Env} {R : Room} {s : State} {m : MethodId} {args : Array Value} {below : List Frame} {meth : Method} {c : Code} {H : Heap} {locs : List Loc} {cells slots : Nat} {Q : State → Prop}
variable {y : MethodName} {bytes cc : ByteArray} {maxL nL n index pc mc ms : Nat} {ret : Option FieldType} {wy : List Cond} {rm : Room} {Ts : List Cond} {own C : String} {b : Addr} {As rest st0 : List Value} {ls : Array Slot} {D : va_G} {T : List (ClassId × FieldType)} {A : Nat → Prop} {sa : Nat → Nat} {ws wc w1 : va_W} {H0 : Heap} {OK : Prop} {TH : String → Prop}
variable {Qc : Array Value → State → Outcome → State → Prop} {XC : String → State → State → Prop}
theorem xVg (S : CallFix p m c cc nL s args Ts own) (hM : vx_Met l y wy rm (va_Pc (.ref b :: As) (hoX D T (va_A wc H.size) sa wc)) Qc XC mc ms (va_A wc H.size)) (cw : CallW R s args own C index y bytes maxL ret wy rm mc ms n)
    (hE : evX D T A sa s) (hP : va_P D vwCl ws H) (hD : va_D A ws) (hS : va_S A s.heap H locs) (hA : ∀ q, s.heap.size ≤ q → A q) (is : List Nat) (hn : va_nd is = true) (hC : is.map (fun i => ws[i]?) = wc.map some)
    (q0 : Nat) {ci : Nat} {T0 : u_T} {N : Nat} {fs : List Value} (hc : vwCl[ci]? = some (C, T0, N)) (he : ws[q0]? = some (b, .inr (ci, fs)))
    (hl : As.length = n) (hsize : ls.size = nL) (hst : st0 = As.reverse ++ .ref b :: rest) (hr : (rest.map fun v => v.category).sum ≤ 8) (hdg : decode cc pc = .ok (.invokevirtual index, 3)) (hf : cells + mc ≤ R.cells ∧ slots + ms ≤ R.slots) :
    vx_Run p l e R s m args below meth c H locs cells slots mc ms (F0 m pc ls st0) rest (Qc (Value.ref b :: As).toArray) XC (va_A wc H.size) :=
  vx_runV S hM cw ⟨hoX_blind, va_recv hE.1.1 hP hc he, fun _ hU hW => ⟨rfl, hoX_sub hE hP hD hS hA hn hC hU hW⟩⟩ rfl hl hsize hst (lv_room hr) hdg hf
theorem kIg {r : Int32} {a : Array Value} {is : List Nat} (hr : vx_Run p l e R s m args below meth c H locs cells slots mc ms (F0 m pc ls st0) rest (va_Qi (fun x (_ : Unit) => x = r ∧ OK) (fun _ t => hq D (va_A wc H.size) w1 t) (va_A wc H.size) a) (vx_X (fun (_ : Unit) => True) (fun E _ t => TH E ∧ hq D (va_A wc H.size) wc t) (va_A wc H.size)) (va_A wc H.size))
    (hP : va_P D vwCl ws H) (hD : va_D A ws) (hS : va_S A H0 H locs) (hA : ∀ q, H0.size ≤ q → A q) (hC : is.map (fun i => ws[i]?) = wc.map some) (hf : w1.map Prod.fst = wc.map Prod.fst)
    (kx : ∀ (E : String) (ce : Cell) (q9 : Addr) (H : Heap) (locs : List Loc), TH E → va_P D vwCl ws H → va_S A H0 H locs → H[q9]? = some ce → ce.vm = .none → s.vm.findClass E = some ce.cls → vx_W p l e R s m args below meth c H locs (cells + mc) (slots + ms) Q (F0 m pc ls rest) q9)
    (kk : ∀ (H : Heap) (locs : List Loc), OK → va_P D vwCl (putW ws is w1) H → va_D A (putW ws is w1) → va_S A H0 H locs → W p l e R s m args below meth c H locs (cells + mc) (slots + ms) Q (F0 m (pc + 3) ls (.int r :: rest))) : W p l e R s m args below meth c H locs cells slots Q (F0 m pc ls st0) :=
  vx_calli hr hS (fun q _ h => free_A hD hS hA hC q h) (free_A hD hS hA hC) (fun q _ h => free_A hD hS hA hC q h)
    (fun E ce q9 _ t H1 locs1 ht _ _ hB _ hk hS1 h1 h2 h3 => kx E ce q9 H1 locs1 hB.1 (lift0 hP hD hC hk (by rw [← ht]; exact hB.2.1)) hS1 h1 h2 h3)
    (fun r1 _ t H1 locs1 ht _ hp hB _ hk hS1 => by
      obtain ⟨rfl, hok⟩ := hp
      obtain ⟨g1, g2⟩ := lift1 hP hD hC hf hk (by rw [← ht]; exact hB.1)
      exact kk H1 locs1 hok g1 g2 hS1)
end THR6

set_option maxHeartbeats 4000000 in
set_option maxRecDepth 100000 in
theorem c_L_addModel (l : Launch) (hnt : l.stackTraces = false) (D : va_G) (cI cL cM : ClassId) (A : Nat → Prop) (sa : Nat → Nat) (a : Nat → Nat) (o : Nat) (x : Mx) (f : Nat → Int64) (y0 y1 y2 : Int32) (hn6 : k_n (x_pr x) ≤ 6) : mW l yL_addModel wsL_addModel ({ frames := 8, cells := 3, slots := 18, locals := 153 }) D (tB cI cL cM) A sa [.ref (a 0), .int y0, .int y1, .int y2, .ref o] (wrW cI cL cM a o x f) (cdAdd x y0 y1 y2) (wrW cI cL cM a o (if cdAdd x y0 y1 y2 = 0 then (xs_pr x (k_tk (x_pr x) y0 y1 y2)) else x) (if cdAdd x y0 y1 y2 = 0 then vp_updL f 0 (nI (k_n (x_pr x))).toInt64 else f)) := by
  refine vx_ofWH (cc := cL_addModel) (maxL := 6) (ret := (some .int)) (by decide) rfl ?_
  intro p e s m args below meth c s₁ B hml hv
  obtain ⟨rfl, ⟨hP, hEX, hD, hA⟩, hN⟩ := hv
  have hE := hEX.1
  have hK := hE.1
  have hx := B.exec
  have hb := B.bytes
  have hr := B.returns
  have hts := atoms_spec (ws := wsL_addModel) B.pre
  have htb := vx_table (x := yL_addModel) B (hts _ List.mem_cons_self)
  have hown : s.vm.findClass RL = some m.cls := findClass_of_methodNamed B.named
  have hlocks := B.notSynchronized
  have hS : va_S A s.heap s.heap [] := va_S.rf
  have hl := lv_entry ([.ref (a 0), .int y0, .int y1, .int y2, .ref o]) (n := 6) (Nat.le_of_ble_eq_true rfl)
  rw [lg_entry_eq]
  generalize (lg_sl ([.ref (a 0), .int y0, .int y1, .int y2, .ref o]) ++ List.replicate (6 - (lg_sl ([.ref (a 0), .int y0, .int y1, .int y2, .ref o])).length) Slot.unset).toArray = ls at hl ⊢
  have hl : lv_has ls 6 [(0, .ref (a 0)), (1, .int y0), (2, .int y1), (3, .int y2), (4, .ref o)] := hl
  refine lv_aload hx hb dL_addModel_0 (lv_at hl 4 rfl) ?_
  refine lv_iconst (v := 0) hx hb dL_addModel_2 (by decide) ?_
  refine lv_aload_n hx hb dL_addModel_3 rfl (lv_at hl 0 rfl) ?_
  refine lv_iload_n hx hb dL_addModel_4 rfl (lv_at hl 1 rfl) ?_
  refine lv_iload_n hx hb dL_addModel_5 rfl (lv_at hl 2 rfl) ?_
  refine lv_iload_n hx hb dL_addModel_6 rfl (lv_at hl 3 rfl) ?_
  refine kIg (xVg (As := [.int y0, .int y1, .int y2]) (rest := [.int 0, .ref o]) ⟨hx, hb, hml, hown, hts⟩ (c_X4_addModel l hnt D cI cL cM _ sa a x y0 y1 y2 hn6) (cwV 3 hts gL_addModel_X4_addModel rfl rfl rfl (by decide +kernel) ⟨(Nat.le_of_ble_eq_true rfl), (Nat.le_of_ble_eq_true rfl)⟩) hEX hP hD hS hA (segI 0 35) seg35 (wrW_mxC cI cL cM a o x f) 0 rfl (wrW_0 cI cL cM a o x f) rfl hl.1 rfl (Nat.le_of_ble_eq_true rfl) dL_addModel_7 ⟨(Nat.le_of_ble_eq_true rfl), (Nat.le_of_ble_eq_true rfl)⟩) hP hD hS hA (is := segI 0 35) (wrW_mxC cI cL cM a o x f) (mxW_fst cI cL cM a _ _) (fun E9 ce9 q9 H locs hth9 hP hS h91 h92 h93 => ?_) (fun H locs hok hP hD hS => ?_)
  · rcases hth9 with ⟨rfl, hk9⟩ | ⟨rfl, hk9⟩
    · refine vx_catch hown [] ⟨0, 12, 15, 13⟩ [⟨0, 12, 19, 15⟩] htb (fun _ h => absurd h List.not_mem_nil) (by decide) (by decide) (hts _ (List.mem_of_getElem? (i := 1) rfl)) (xW_use hEX.2.2.2.2 _ _ (List.mem_of_getElem? (i := 3) rfl)) h91 h92 h93 ?_
      have hk0 : ¬ cdAdd x y0 y1 y2 = 0 := by rw [hk9]; decide
      refine lv_astore (lv' := [(5, .ref q9), (0, .ref (a 0)), (1, .int y0), (2, .int y1), (3, .int y2), (4, .ref o)]) hx hb dL_addModel_15 hl (by decide) rfl (fun ls hl => ?_)
      refine lv_iconst (v := 1) hx hb dL_addModel_17 (by decide) ?_
      have hw9 : (wrW cI cL cM a o x f) = (wrW cI cL cM a o (if cdAdd x y0 y1 y2 = 0 then (xs_pr x (k_tk (x_pr x) y0 y1 y2)) else x) (if cdAdd x y0 y1 y2 = 0 then vp_updL f 0 (nI (k_n (x_pr x))).toInt64 else f)) := by rw [if_neg hk0, if_neg hk0]
      rw [hw9] at hP hD
      refine vx_ret ?_
      refine W.widen (k := 3) (n := 18) (Nat.le_of_ble_eq_true rfl) (Nat.le_of_ble_eq_true rfl) ?_
      exact W.iret (v := 1) hx hb hr (fun t ht hW => ⟨⟨1, (), rfl, hk9.symm, by rw [ht]; exact hP, hD⟩, hS.F ht⟩) hS.2.2 dL_addModel_18
    · refine vx_catch hown [⟨0, 12, 15, 13⟩] ⟨0, 12, 19, 15⟩ [] htb (List.forall_mem_cons.mpr ⟨Or.inr ⟨by decide, _, (hts _ (List.mem_of_getElem? (i := 1) rfl)), hN.1⟩, fun _ h => absurd h List.not_mem_nil⟩) (by decide) (by decide) (hts _ (List.mem_of_getElem? (i := 2) rfl)) (xW_use hEX.2.2.2.2 _ _ (List.mem_of_getElem? (i := 4) rfl)) h91 h92 h93 ?_
      have hk0 : ¬ cdAdd x y0 y1 y2 = 0 := by rw [hk9]; decide
      refine lv_astore (lv' := [(5, .ref q9), (0, .ref (a 0)), (1, .int y0), (2, .int y1), (3, .int y2), (4, .ref o)]) hx hb dL_addModel_19 hl (by decide) rfl (fun ls hl => ?_)
      refine lv_iconst (v := 2) hx hb dL_addModel_21 (by decide) ?_
      have hw9 : (wrW cI cL cM a o x f) = (wrW cI cL cM a o (if cdAdd x y0 y1 y2 = 0 then (xs_pr x (k_tk (x_pr x) y0 y1 y2)) else x) (if cdAdd x y0 y1 y2 = 0 then vp_updL f 0 (nI (k_n (x_pr x))).toInt64 else f)) := by rw [if_neg hk0, if_neg hk0]
      rw [hw9] at hP hD
      refine vx_ret ?_
      refine W.widen (k := 3) (n := 18) (Nat.le_of_ble_eq_true rfl) (Nat.le_of_ble_eq_true rfl) ?_
      exact W.iret (v := 2) hx hb hr (fun t ht hW => ⟨⟨2, (), rfl, hk9.symm, by rw [ht]; exact hP, hD⟩, hS.F ht⟩) hS.2.2 dL_addModel_22
  rw [wrW_mxP] at hP hD
  refine lv_i2l hx hb dL_addModel_10 rfl ?_
  refine lstN hx hb hK hP hD hS 35 1 rfl rfl 0 (by omega) ((Nat.le_of_ble_eq_true rfl)) dL_addModel_11 (fun H locs hP hD hS => ?_)
  rw [wrW_set] at hP hD
  have hP : va_P D vwCl (wrW cI cL cM a o (xs_pr x (k_tk (x_pr x) y0 y1 y2)) (vp_updL f 0 ((nI (k_n (x_pr x))).toInt64))) H := hP
  have hD : va_D A (wrW cI cL cM a o (xs_pr x (k_tk (x_pr x) y0 y1 y2)) (vp_updL f 0 ((nI (k_n (x_pr x))).toInt64))) := hD
  refine lv_goto (tgt := 23) hx hb dL_addModel_12 (by decide) ?_
  refine lv_iconst (v := 0) hx hb dL_addModel_23 (by decide) ?_
  have hw9 : (wrW cI cL cM a o (xs_pr x (k_tk (x_pr x) y0 y1 y2)) (vp_updL f 0 ((nI (k_n (x_pr x))).toInt64))) = (wrW cI cL cM a o (if cdAdd x y0 y1 y2 = 0 then (xs_pr x (k_tk (x_pr x) y0 y1 y2)) else x) (if cdAdd x y0 y1 y2 = 0 then vp_updL f 0 (nI (k_n (x_pr x))).toInt64 else f)) := by rw [if_pos hok, if_pos hok]
  rw [hw9] at hP hD
  refine vx_ret ?_
  refine W.widen (k := 3) (n := 18) (Nat.le_of_ble_eq_true rfl) (Nat.le_of_ble_eq_true rfl) ?_
  exact W.iret (v := 0) hx hb hr (fun t ht hW => ⟨⟨0, (), rfl, hok.symm, by rw [ht]; exact hP, hD⟩, hS.F ht⟩) hS.2.2 dL_addModel_24

set_option maxHeartbeats 4000000 in
set_option maxRecDepth 100000 in
theorem c_L_removeModel (l : Launch) (hnt : l.stackTraces = false) (D : va_G) (cI cL cM : ClassId) (A : Nat → Prop) (sa : Nat → Nat) (a : Nat → Nat) (o : Nat) (x : Mx) (f : Nat → Int64) (hn6 : k_n (x_pr x) ≤ 6) : mW l yL_removeModel wsL_removeModel ({ frames := 7, cells := 3, slots := 18, locals := 147 }) D (tB cI cL cM) A sa [.ref (a 0), .ref o] (wrW cI cL cM a o x f) (cdRem x) (wrW cI cL cM a o (if cdRem x = 0 then (xs_pr x (k_dr (x_pr x))) else x) (if cdRem x = 0 then vp_updL f 0 (nI (k_n (x_pr x) - 1)).toInt64 else f)) := by
  refine vx_ofWH (cc := cL_removeModel) (maxL := 3) (ret := (some .int)) (by decide) rfl ?_
  intro p e s m args below meth c s₁ B hml hv
  obtain ⟨rfl, ⟨hP, hEX, hD, hA⟩, hN⟩ := hv
  have hE := hEX.1
  have hK := hE.1
  have hx := B.exec
  have hb := B.bytes
  have hr := B.returns
  have hts := atoms_spec (ws := wsL_removeModel) B.pre
  have htb := vx_table (x := yL_removeModel) B (hts _ List.mem_cons_self)
  have hown : s.vm.findClass RL = some m.cls := findClass_of_methodNamed B.named
  have hlocks := B.notSynchronized
  have hS : va_S A s.heap s.heap [] := va_S.rf
  have hl := lv_entry ([.ref (a 0), .ref o]) (n := 3) (Nat.le_of_ble_eq_true rfl)
  rw [lg_entry_eq]
  generalize (lg_sl ([.ref (a 0), .ref o]) ++ List.replicate (3 - (lg_sl ([.ref (a 0), .ref o])).length) Slot.unset).toArray = ls at hl ⊢
  have hl : lv_has ls 3 [(0, .ref (a 0)), (1, .ref o)] := hl
  refine lv_aload_n hx hb dL_removeModel_0 rfl (lv_at hl 1 rfl) ?_
  refine lv_iconst (v := 0) hx hb dL_removeModel_1 (by decide) ?_
  refine lv_aload_n hx hb dL_removeModel_2 rfl (lv_at hl 0 rfl) ?_
  refine kIg (xVg (As := []) (rest := [.int 0, .ref o]) ⟨hx, hb, hml, hown, hts⟩ (c_X4_removeModel l hnt D cI cL cM _ sa a x hn6) (cwV 0 hts gL_removeModel_X4_removeModel rfl rfl rfl (by decide +kernel) ⟨(Nat.le_of_ble_eq_true rfl), (Nat.le_of_ble_eq_true rfl)⟩) hEX hP hD hS hA (segI 0 35) seg35 (wrW_mxC cI cL cM a o x f) 0 rfl (wrW_0 cI cL cM a o x f) rfl hl.1 rfl (Nat.le_of_ble_eq_true rfl) dL_removeModel_3 ⟨(Nat.le_of_ble_eq_true rfl), (Nat.le_of_ble_eq_true rfl)⟩) hP hD hS hA (is := segI 0 35) (wrW_mxC cI cL cM a o x f) (mxW_fst cI cL cM a _ _) (fun E9 ce9 q9 H locs hth9 hP hS h91 h92 h93 => ?_) (fun H locs hok hP hD hS => ?_)
  · obtain ⟨rfl, hk9⟩ := hth9
    refine vx_catch hown [] ⟨0, 8, 11, 15⟩ [] htb (fun _ h => absurd h List.not_mem_nil) (by decide) (by decide) (hts _ (List.mem_of_getElem? (i := 1) rfl)) (xW_use hEX.2.2.2.2 _ _ (List.mem_of_getElem? (i := 4) rfl)) h91 h92 h93 ?_
    have hk0 : ¬ cdRem x = 0 := by rw [hk9]; decide
    refine lv_astore_n (lv' := [(2, .ref q9), (0, .ref (a 0)), (1, .ref o)]) hx hb dL_removeModel_11 rfl hl (by decide) rfl (fun ls hl => ?_)
    refine lv_iconst (v := 1) hx hb dL_removeModel_12 (by decide) ?_
    have hw9 : (wrW cI cL cM a o x f) = (wrW cI cL cM a o (if cdRem x = 0 then (xs_pr x (k_dr (x_pr x))) else x) (if cdRem x = 0 then vp_updL f 0 (nI (k_n (x_pr x) - 1)).toInt64 else f)) := by rw [if_neg hk0, if_neg hk0]
    rw [hw9] at hP hD
    refine vx_ret ?_
    refine W.widen (k := 3) (n := 18) (Nat.le_of_ble_eq_true rfl) (Nat.le_of_ble_eq_true rfl) ?_
    exact W.iret (v := 1) hx hb hr (fun t ht hW => ⟨⟨1, (), rfl, hk9.symm, by rw [ht]; exact hP, hD⟩, hS.F ht⟩) hS.2.2 dL_removeModel_13
  rw [wrW_mxP] at hP hD
  refine lv_i2l hx hb dL_removeModel_6 rfl ?_
  refine lstN hx hb hK hP hD hS 35 1 rfl rfl 0 (by omega) ((Nat.le_of_ble_eq_true rfl)) dL_removeModel_7 (fun H locs hP hD hS => ?_)
  rw [wrW_set] at hP hD
  have hP : va_P D vwCl (wrW cI cL cM a o (xs_pr x (k_dr (x_pr x))) (vp_updL f 0 ((nI (k_n (x_pr x) - 1)).toInt64))) H := hP
  have hD : va_D A (wrW cI cL cM a o (xs_pr x (k_dr (x_pr x))) (vp_updL f 0 ((nI (k_n (x_pr x) - 1)).toInt64))) := hD
  refine lv_goto (tgt := 14) hx hb dL_removeModel_8 (by decide) ?_
  refine lv_iconst (v := 0) hx hb dL_removeModel_14 (by decide) ?_
  have hw9 : (wrW cI cL cM a o (xs_pr x (k_dr (x_pr x))) (vp_updL f 0 ((nI (k_n (x_pr x) - 1)).toInt64))) = (wrW cI cL cM a o (if cdRem x = 0 then (xs_pr x (k_dr (x_pr x))) else x) (if cdRem x = 0 then vp_updL f 0 (nI (k_n (x_pr x) - 1)).toInt64 else f)) := by rw [if_pos hok, if_pos hok]
  rw [hw9] at hP hD
  refine vx_ret ?_
  refine W.widen (k := 3) (n := 18) (Nat.le_of_ble_eq_true rfl) (Nat.le_of_ble_eq_true rfl) ?_
  exact W.iret (v := 0) hx hb hr (fun t ht hW => ⟨⟨0, (), rfl, hok.symm, by rw [ht]; exact hP, hD⟩, hS.F ht⟩) hS.2.2 dL_removeModel_15

set_option maxHeartbeats 4000000 in
set_option maxRecDepth 100000 in
theorem c_L_setRate (l : Launch) (hnt : l.stackTraces = false) (D : va_G) (cI cL cM : ClassId) (A : Nat → Prop) (sa : Nat → Nat) (a : Nat → Nat) (o : Nat) (x : Mx) (f : Nat → Int64) (q y : Int32) (hn6 : k_n (x_pr x) ≤ 6) : mW l yL_setRate wsL_setRate ({ frames := 8, cells := 3, slots := 18, locals := 135 }) D (tB cI cL cM) A sa [.ref (a 0), .int q, .int y, .ref o] (wrW cI cL cM a o x f) (cdRat x q y) (wrW cI cL cM a o (if cdRat x q y = 0 then (x_rat x q y) else x) (if cdRat x q y = 0 then vp_updL f 0 (o_rt (k_mo (x_pr x) q.toNatClampNeg)).toInt64 else f)) := by
  refine vx_ofWH (cc := cL_setRate) (maxL := 5) (ret := (some .int)) (by decide) rfl ?_
  intro p e s m args below meth c s₁ B hml hv
  obtain ⟨rfl, ⟨hP, hEX, hD, hA⟩, hN⟩ := hv
  have hE := hEX.1
  have hK := hE.1
  have hx := B.exec
  have hb := B.bytes
  have hr := B.returns
  have hts := atoms_spec (ws := wsL_setRate) B.pre
  have htb := vx_table (x := yL_setRate) B (hts _ List.mem_cons_self)
  have hown : s.vm.findClass RL = some m.cls := findClass_of_methodNamed B.named
  have hlocks := B.notSynchronized
  have hS : va_S A s.heap s.heap [] := va_S.rf
  have hl := lv_entry ([.ref (a 0), .int q, .int y, .ref o]) (n := 5) (Nat.le_of_ble_eq_true rfl)
  rw [lg_entry_eq]
  generalize (lg_sl ([.ref (a 0), .int q, .int y, .ref o]) ++ List.replicate (5 - (lg_sl ([.ref (a 0), .int q, .int y, .ref o])).length) Slot.unset).toArray = ls at hl ⊢
  have hl : lv_has ls 5 [(0, .ref (a 0)), (1, .int q), (2, .int y), (3, .ref o)] := hl
  refine lv_aload_n hx hb dL_setRate_0 rfl (lv_at hl 3 rfl) ?_
  refine lv_iconst (v := 0) hx hb dL_setRate_1 (by decide) ?_
  refine lv_aload_n hx hb dL_setRate_2 rfl (lv_at hl 0 rfl) ?_
  refine lv_iload_n hx hb dL_setRate_3 rfl (lv_at hl 1 rfl) ?_
  refine lv_iload_n hx hb dL_setRate_4 rfl (lv_at hl 2 rfl) ?_
  refine kIg (xVg (As := [.int q, .int y]) (rest := [.int 0, .ref o]) ⟨hx, hb, hml, hown, hts⟩ (c_X4_setRate l hnt D cI cL cM _ sa a x q y hn6) (cwV 2 hts gL_setRate_X4_setRate rfl rfl rfl (by decide +kernel) ⟨(Nat.le_of_ble_eq_true rfl), (Nat.le_of_ble_eq_true rfl)⟩) hEX hP hD hS hA (segI 0 35) seg35 (wrW_mxC cI cL cM a o x f) 0 rfl (wrW_0 cI cL cM a o x f) rfl hl.1 rfl (Nat.le_of_ble_eq_true rfl) dL_setRate_5 ⟨(Nat.le_of_ble_eq_true rfl), (Nat.le_of_ble_eq_true rfl)⟩) hP hD hS hA (is := segI 0 35) (wrW_mxC cI cL cM a o x f) (mxW_fst cI cL cM a _ _) (fun E9 ce9 q9 H locs hth9 hP hS h91 h92 h93 => ?_) (fun H locs hok hP hD hS => ?_)
  · rcases hth9 with ⟨rfl, hk9⟩ | ⟨rfl, hk9⟩
    · refine vx_catch hown [] ⟨0, 10, 13, 25⟩ [⟨0, 10, 17, 13⟩] htb (fun _ h => absurd h List.not_mem_nil) (by decide) (by decide) (hts _ (List.mem_of_getElem? (i := 1) rfl)) (xW_use hEX.2.2.2.2 _ _ (List.mem_of_getElem? (i := 5) rfl)) h91 h92 h93 ?_
      have hk0 : ¬ cdRat x q y = 0 := by rw [hk9]; decide
      refine lv_astore (lv' := [(4, .ref q9), (0, .ref (a 0)), (1, .int q), (2, .int y), (3, .ref o)]) hx hb dL_setRate_13 hl (by decide) rfl (fun ls hl => ?_)
      refine lv_iconst (v := 1) hx hb dL_setRate_15 (by decide) ?_
      have hw9 : (wrW cI cL cM a o x f) = (wrW cI cL cM a o (if cdRat x q y = 0 then (x_rat x q y) else x) (if cdRat x q y = 0 then vp_updL f 0 (o_rt (k_mo (x_pr x) q.toNatClampNeg)).toInt64 else f)) := by rw [if_neg hk0, if_neg hk0]
      rw [hw9] at hP hD
      refine vx_ret ?_
      refine W.widen (k := 3) (n := 18) (Nat.le_of_ble_eq_true rfl) (Nat.le_of_ble_eq_true rfl) ?_
      exact W.iret (v := 1) hx hb hr (fun t ht hW => ⟨⟨1, (), rfl, hk9.symm, by rw [ht]; exact hP, hD⟩, hS.F ht⟩) hS.2.2 dL_setRate_16
    · refine vx_catch hown [⟨0, 10, 13, 25⟩] ⟨0, 10, 17, 13⟩ [] htb (List.forall_mem_cons.mpr ⟨Or.inr ⟨by decide, _, (hts _ (List.mem_of_getElem? (i := 1) rfl)), hN.2⟩, fun _ h => absurd h List.not_mem_nil⟩) (by decide) (by decide) (hts _ (List.mem_of_getElem? (i := 2) rfl)) (xW_use hEX.2.2.2.2 _ _ (List.mem_of_getElem? (i := 3) rfl)) h91 h92 h93 ?_
      have hk0 : ¬ cdRat x q y = 0 := by rw [hk9]; decide
      refine lv_astore (lv' := [(4, .ref q9), (0, .ref (a 0)), (1, .int q), (2, .int y), (3, .ref o)]) hx hb dL_setRate_17 hl (by decide) rfl (fun ls hl => ?_)
      refine lv_iconst (v := 2) hx hb dL_setRate_19 (by decide) ?_
      have hw9 : (wrW cI cL cM a o x f) = (wrW cI cL cM a o (if cdRat x q y = 0 then (x_rat x q y) else x) (if cdRat x q y = 0 then vp_updL f 0 (o_rt (k_mo (x_pr x) q.toNatClampNeg)).toInt64 else f)) := by rw [if_neg hk0, if_neg hk0]
      rw [hw9] at hP hD
      refine vx_ret ?_
      refine W.widen (k := 3) (n := 18) (Nat.le_of_ble_eq_true rfl) (Nat.le_of_ble_eq_true rfl) ?_
      exact W.iret (v := 2) hx hb hr (fun t ht hW => ⟨⟨2, (), rfl, hk9.symm, by rw [ht]; exact hP, hD⟩, hS.F ht⟩) hS.2.2 dL_setRate_20
  rw [wrW_mxP] at hP hD
  refine lv_i2l hx hb dL_setRate_8 rfl ?_
  refine lstN hx hb hK hP hD hS 35 1 rfl rfl 0 (by omega) ((Nat.le_of_ble_eq_true rfl)) dL_setRate_9 (fun H locs hP hD hS => ?_)
  rw [wrW_set] at hP hD
  have hP : va_P D vwCl (wrW cI cL cM a o (x_rat x q y) (vp_updL f 0 ((o_rt (k_mo (x_pr x) q.toNatClampNeg)).toInt64))) H := hP
  have hD : va_D A (wrW cI cL cM a o (x_rat x q y) (vp_updL f 0 ((o_rt (k_mo (x_pr x) q.toNatClampNeg)).toInt64))) := hD
  refine lv_goto (tgt := 21) hx hb dL_setRate_10 (by decide) ?_
  refine lv_iconst (v := 0) hx hb dL_setRate_21 (by decide) ?_
  have hw9 : (wrW cI cL cM a o (x_rat x q y) (vp_updL f 0 ((o_rt (k_mo (x_pr x) q.toNatClampNeg)).toInt64))) = (wrW cI cL cM a o (if cdRat x q y = 0 then (x_rat x q y) else x) (if cdRat x q y = 0 then vp_updL f 0 (o_rt (k_mo (x_pr x) q.toNatClampNeg)).toInt64 else f)) := by rw [if_pos hok, if_pos hok]
  rw [hw9] at hP hD
  refine vx_ret ?_
  refine W.widen (k := 3) (n := 18) (Nat.le_of_ble_eq_true rfl) (Nat.le_of_ble_eq_true rfl) ?_
  exact W.iret (v := 0) hx hb hr (fun t ht hW => ⟨⟨0, (), rfl, hok.symm, by rw [ht]; exact hP, hD⟩, hS.F ht⟩) hS.2.2 dL_setRate_22

set_option maxHeartbeats 4000000 in
set_option maxRecDepth 100000 in
theorem c_L_feed (l : Launch) (hnt : l.stackTraces = false) (D : va_G) (cI cL cM : ClassId) (A : Nat → Prop) (sa : Nat → Nat) (a : Nat → Nat) (o : Nat) (x : Mx) (f : Nat → Int64) (w : Int64) (q : Int32) (htc : q_c (x_tx x) ≤ 80) : mW l yL_feed wsL_feed ({ frames := 8, cells := 3, slots := 18, locals := 135 }) D (tB cI cL cM) A sa [.ref (a 0), .long w, .int q, .ref o] (wrW cI cL cM a o x f) (cdFee x q) (wrW cI cL cM a o (if cdFee x q = 0 then (xs_tx x (q_fd w q.toNatClampNeg (x_tx x))) else x) (if cdFee x q = 0 then vp_updL f 0 (nI (q_c (q_fd w q.toNatClampNeg (x_tx x)))).toInt64 else f)) := by
  refine vx_ofWH (cc := cL_feed) (maxL := 6) (ret := (some .int)) (by decide) rfl ?_
  intro p e s m args below meth c s₁ B hml hv
  obtain ⟨rfl, ⟨hP, hEX, hD, hA⟩, hN⟩ := hv
  have hE := hEX.1
  have hK := hE.1
  have hx := B.exec
  have hb := B.bytes
  have hr := B.returns
  have hts := atoms_spec (ws := wsL_feed) B.pre
  have htb := vx_table (x := yL_feed) B (hts _ List.mem_cons_self)
  have hown : s.vm.findClass RL = some m.cls := findClass_of_methodNamed B.named
  have hlocks := B.notSynchronized
  have hS : va_S A s.heap s.heap [] := va_S.rf
  have hl := lv_entry ([.ref (a 0), .long w, .int q, .ref o]) (n := 6) (Nat.le_of_ble_eq_true rfl)
  rw [lg_entry_eq]
  generalize (lg_sl ([.ref (a 0), .long w, .int q, .ref o]) ++ List.replicate (6 - (lg_sl ([.ref (a 0), .long w, .int q, .ref o])).length) Slot.unset).toArray = ls at hl ⊢
  have hl : lv_has ls 6 [(0, .ref (a 0)), (1, .long w), (3, .int q), (4, .ref o)] := hl
  refine lv_aload hx hb dL_feed_0 (lv_at hl 3 rfl) ?_
  refine lv_iconst (v := 0) hx hb dL_feed_2 (by decide) ?_
  refine lv_aload_n hx hb dL_feed_3 rfl (lv_at hl 0 rfl) ?_
  refine lv_lload_n hx hb dL_feed_4 rfl (lv_at hl 1 rfl) ?_
  refine lv_iload_n hx hb dL_feed_5 rfl (lv_at hl 2 rfl) ?_
  refine kIg (xVg (As := [.long w, .int q]) (rest := [.int 0, .ref o]) ⟨hx, hb, hml, hown, hts⟩ (c_X4_feed l hnt D cI cL cM _ sa a x w q htc) (cwV 2 hts gL_feed_X4_feed rfl rfl rfl (by decide +kernel) ⟨(Nat.le_of_ble_eq_true rfl), (Nat.le_of_ble_eq_true rfl)⟩) hEX hP hD hS hA (segI 0 35) seg35 (wrW_mxC cI cL cM a o x f) 0 rfl (wrW_0 cI cL cM a o x f) rfl hl.1 rfl (Nat.le_of_ble_eq_true rfl) dL_feed_6 ⟨(Nat.le_of_ble_eq_true rfl), (Nat.le_of_ble_eq_true rfl)⟩) hP hD hS hA (is := segI 0 35) (wrW_mxC cI cL cM a o x f) (mxW_fst cI cL cM a _ _) (fun E9 ce9 q9 H locs hth9 hP hS h91 h92 h93 => ?_) (fun H locs hok hP hD hS => ?_)
  · rcases hth9 with ⟨rfl, hk9⟩ | ⟨rfl, hk9⟩
    · refine vx_catch hown [] ⟨0, 11, 14, 13⟩ [⟨0, 11, 18, 15⟩] htb (fun _ h => absurd h List.not_mem_nil) (by decide) (by decide) (hts _ (List.mem_of_getElem? (i := 1) rfl)) (xW_use hEX.2.2.2.2 _ _ (List.mem_of_getElem? (i := 3) rfl)) h91 h92 h93 ?_
      have hk0 : ¬ cdFee x q = 0 := by rw [hk9]; decide
      refine lv_astore (lv' := [(5, .ref q9), (0, .ref (a 0)), (1, .long w), (3, .int q), (4, .ref o)]) hx hb dL_feed_14 hl (by decide) rfl (fun ls hl => ?_)
      refine lv_iconst (v := 1) hx hb dL_feed_16 (by decide) ?_
      have hw9 : (wrW cI cL cM a o x f) = (wrW cI cL cM a o (if cdFee x q = 0 then (xs_tx x (q_fd w q.toNatClampNeg (x_tx x))) else x) (if cdFee x q = 0 then vp_updL f 0 (nI (q_c (q_fd w q.toNatClampNeg (x_tx x)))).toInt64 else f)) := by rw [if_neg hk0, if_neg hk0]
      rw [hw9] at hP hD
      refine vx_ret ?_
      refine W.widen (k := 3) (n := 18) (Nat.le_of_ble_eq_true rfl) (Nat.le_of_ble_eq_true rfl) ?_
      exact W.iret (v := 1) hx hb hr (fun t ht hW => ⟨⟨1, (), rfl, hk9.symm, by rw [ht]; exact hP, hD⟩, hS.F ht⟩) hS.2.2 dL_feed_17
    · refine vx_catch hown [⟨0, 11, 14, 13⟩] ⟨0, 11, 18, 15⟩ [] htb (List.forall_mem_cons.mpr ⟨Or.inr ⟨by decide, _, (hts _ (List.mem_of_getElem? (i := 1) rfl)), hN.1⟩, fun _ h => absurd h List.not_mem_nil⟩) (by decide) (by decide) (hts _ (List.mem_of_getElem? (i := 2) rfl)) (xW_use hEX.2.2.2.2 _ _ (List.mem_of_getElem? (i := 4) rfl)) h91 h92 h93 ?_
      have hk0 : ¬ cdFee x q = 0 := by rw [hk9]; decide
      refine lv_astore (lv' := [(5, .ref q9), (0, .ref (a 0)), (1, .long w), (3, .int q), (4, .ref o)]) hx hb dL_feed_18 hl (by decide) rfl (fun ls hl => ?_)
      refine lv_iconst (v := 2) hx hb dL_feed_20 (by decide) ?_
      have hw9 : (wrW cI cL cM a o x f) = (wrW cI cL cM a o (if cdFee x q = 0 then (xs_tx x (q_fd w q.toNatClampNeg (x_tx x))) else x) (if cdFee x q = 0 then vp_updL f 0 (nI (q_c (q_fd w q.toNatClampNeg (x_tx x)))).toInt64 else f)) := by rw [if_neg hk0, if_neg hk0]
      rw [hw9] at hP hD
      refine vx_ret ?_
      refine W.widen (k := 3) (n := 18) (Nat.le_of_ble_eq_true rfl) (Nat.le_of_ble_eq_true rfl) ?_
      exact W.iret (v := 2) hx hb hr (fun t ht hW => ⟨⟨2, (), rfl, hk9.symm, by rw [ht]; exact hP, hD⟩, hS.F ht⟩) hS.2.2 dL_feed_21
  rw [wrW_mxP] at hP hD
  refine lv_i2l hx hb dL_feed_9 rfl ?_
  refine lstN hx hb hK hP hD hS 35 1 rfl rfl 0 (by omega) ((Nat.le_of_ble_eq_true rfl)) dL_feed_10 (fun H locs hP hD hS => ?_)
  rw [wrW_set] at hP hD
  have hP : va_P D vwCl (wrW cI cL cM a o (xs_tx x (q_fd w q.toNatClampNeg (x_tx x))) (vp_updL f 0 ((nI (q_c (q_fd w q.toNatClampNeg (x_tx x)))).toInt64))) H := hP
  have hD : va_D A (wrW cI cL cM a o (xs_tx x (q_fd w q.toNatClampNeg (x_tx x))) (vp_updL f 0 ((nI (q_c (q_fd w q.toNatClampNeg (x_tx x)))).toInt64))) := hD
  refine lv_goto (tgt := 22) hx hb dL_feed_11 (by decide) ?_
  refine lv_iconst (v := 0) hx hb dL_feed_22 (by decide) ?_
  have hw9 : (wrW cI cL cM a o (xs_tx x (q_fd w q.toNatClampNeg (x_tx x))) (vp_updL f 0 ((nI (q_c (q_fd w q.toNatClampNeg (x_tx x)))).toInt64))) = (wrW cI cL cM a o (if cdFee x q = 0 then (xs_tx x (q_fd w q.toNatClampNeg (x_tx x))) else x) (if cdFee x q = 0 then vp_updL f 0 (nI (q_c (q_fd w q.toNatClampNeg (x_tx x)))).toInt64 else f)) := by rw [if_pos hok, if_pos hok]
  rw [hw9] at hP hD
  refine vx_ret ?_
  refine W.widen (k := 3) (n := 18) (Nat.le_of_ble_eq_true rfl) (Nat.le_of_ble_eq_true rfl) ?_
  exact W.iret (v := 0) hx hb hr (fun t ht hW => ⟨⟨0, (), rfl, hok.symm, by rw [ht]; exact hP, hD⟩, hS.F ht⟩) hS.2.2 dL_feed_23

set_option maxHeartbeats 4000000 in
set_option maxRecDepth 100000 in
theorem c_L_fill (l : Launch) (hnt : l.stackTraces = false) (D : va_G) (cI cL cM : ClassId) (A : Nat → Prop) (sa : Nat → Nat) (a : Nat → Nat) (o : Nat) (x : Mx) (f : Nat → Int64) (v q : Int32) (htc : q_c (x_tx x) ≤ 80) : mW l yL_fill wsL_fill ({ frames := 8, cells := 3, slots := 18, locals := 134 }) D (tB cI cL cM) A sa [.ref (a 0), .int v, .int q, .ref o] (wrW cI cL cM a o x f) (cdFil x v q) (wrW cI cL cM a o (if cdFil x v q = 0 then (xs_tx x (q_fl v q.toNatClampNeg (x_tx x))) else x) (if cdFil x v q = 0 then vp_updL f 0 (nI (q_c (q_fl v q.toNatClampNeg (x_tx x)))).toInt64 else f)) := by
  refine vx_ofWH (cc := cL_fill) (maxL := 5) (ret := (some .int)) (by decide) rfl ?_
  intro p e s m args below meth c s₁ B hml hv
  obtain ⟨rfl, ⟨hP, hEX, hD, hA⟩, hN⟩ := hv
  have hE := hEX.1
  have hK := hE.1
  have hx := B.exec
  have hb := B.bytes
  have hr := B.returns
  have hts := atoms_spec (ws := wsL_fill) B.pre
  have htb := vx_table (x := yL_fill) B (hts _ List.mem_cons_self)
  have hown : s.vm.findClass RL = some m.cls := findClass_of_methodNamed B.named
  have hlocks := B.notSynchronized
  have hS : va_S A s.heap s.heap [] := va_S.rf
  have hl := lv_entry ([.ref (a 0), .int v, .int q, .ref o]) (n := 5) (Nat.le_of_ble_eq_true rfl)
  rw [lg_entry_eq]
  generalize (lg_sl ([.ref (a 0), .int v, .int q, .ref o]) ++ List.replicate (5 - (lg_sl ([.ref (a 0), .int v, .int q, .ref o])).length) Slot.unset).toArray = ls at hl ⊢
  have hl : lv_has ls 5 [(0, .ref (a 0)), (1, .int v), (2, .int q), (3, .ref o)] := hl
  refine lv_aload_n hx hb dL_fill_0 rfl (lv_at hl 3 rfl) ?_
  refine lv_iconst (v := 0) hx hb dL_fill_1 (by decide) ?_
  refine lv_aload_n hx hb dL_fill_2 rfl (lv_at hl 0 rfl) ?_
  refine lv_iload_n hx hb dL_fill_3 rfl (lv_at hl 1 rfl) ?_
  refine lv_iload_n hx hb dL_fill_4 rfl (lv_at hl 2 rfl) ?_
  refine kIg (xVg (As := [.int v, .int q]) (rest := [.int 0, .ref o]) ⟨hx, hb, hml, hown, hts⟩ (c_X4_fill l hnt D cI cL cM _ sa a x v q htc) (cwV 2 hts gL_fill_X4_fill rfl rfl rfl (by decide +kernel) ⟨(Nat.le_of_ble_eq_true rfl), (Nat.le_of_ble_eq_true rfl)⟩) hEX hP hD hS hA (segI 0 35) seg35 (wrW_mxC cI cL cM a o x f) 0 rfl (wrW_0 cI cL cM a o x f) rfl hl.1 rfl (Nat.le_of_ble_eq_true rfl) dL_fill_5 ⟨(Nat.le_of_ble_eq_true rfl), (Nat.le_of_ble_eq_true rfl)⟩) hP hD hS hA (is := segI 0 35) (wrW_mxC cI cL cM a o x f) (mxW_fst cI cL cM a _ _) (fun E9 ce9 q9 H locs hth9 hP hS h91 h92 h93 => ?_) (fun H locs hok hP hD hS => ?_)
  · rcases hth9 with ⟨rfl, hk9⟩ | ⟨rfl, hk9⟩
    · refine vx_catch hown [] ⟨0, 10, 13, 13⟩ [⟨0, 10, 17, 15⟩] htb (fun _ h => absurd h List.not_mem_nil) (by decide) (by decide) (hts _ (List.mem_of_getElem? (i := 1) rfl)) (xW_use hEX.2.2.2.2 _ _ (List.mem_of_getElem? (i := 3) rfl)) h91 h92 h93 ?_
      have hk0 : ¬ cdFil x v q = 0 := by rw [hk9]; decide
      refine lv_astore (lv' := [(4, .ref q9), (0, .ref (a 0)), (1, .int v), (2, .int q), (3, .ref o)]) hx hb dL_fill_13 hl (by decide) rfl (fun ls hl => ?_)
      refine lv_iconst (v := 1) hx hb dL_fill_15 (by decide) ?_
      have hw9 : (wrW cI cL cM a o x f) = (wrW cI cL cM a o (if cdFil x v q = 0 then (xs_tx x (q_fl v q.toNatClampNeg (x_tx x))) else x) (if cdFil x v q = 0 then vp_updL f 0 (nI (q_c (q_fl v q.toNatClampNeg (x_tx x)))).toInt64 else f)) := by rw [if_neg hk0, if_neg hk0]
      rw [hw9] at hP hD
      refine vx_ret ?_
      refine W.widen (k := 3) (n := 18) (Nat.le_of_ble_eq_true rfl) (Nat.le_of_ble_eq_true rfl) ?_
      exact W.iret (v := 1) hx hb hr (fun t ht hW => ⟨⟨1, (), rfl, hk9.symm, by rw [ht]; exact hP, hD⟩, hS.F ht⟩) hS.2.2 dL_fill_16
    · refine vx_catch hown [⟨0, 10, 13, 13⟩] ⟨0, 10, 17, 15⟩ [] htb (List.forall_mem_cons.mpr ⟨Or.inr ⟨by decide, _, (hts _ (List.mem_of_getElem? (i := 1) rfl)), hN.1⟩, fun _ h => absurd h List.not_mem_nil⟩) (by decide) (by decide) (hts _ (List.mem_of_getElem? (i := 2) rfl)) (xW_use hEX.2.2.2.2 _ _ (List.mem_of_getElem? (i := 4) rfl)) h91 h92 h93 ?_
      have hk0 : ¬ cdFil x v q = 0 := by rw [hk9]; decide
      refine lv_astore (lv' := [(4, .ref q9), (0, .ref (a 0)), (1, .int v), (2, .int q), (3, .ref o)]) hx hb dL_fill_17 hl (by decide) rfl (fun ls hl => ?_)
      refine lv_iconst (v := 2) hx hb dL_fill_19 (by decide) ?_
      have hw9 : (wrW cI cL cM a o x f) = (wrW cI cL cM a o (if cdFil x v q = 0 then (xs_tx x (q_fl v q.toNatClampNeg (x_tx x))) else x) (if cdFil x v q = 0 then vp_updL f 0 (nI (q_c (q_fl v q.toNatClampNeg (x_tx x)))).toInt64 else f)) := by rw [if_neg hk0, if_neg hk0]
      rw [hw9] at hP hD
      refine vx_ret ?_
      refine W.widen (k := 3) (n := 18) (Nat.le_of_ble_eq_true rfl) (Nat.le_of_ble_eq_true rfl) ?_
      exact W.iret (v := 2) hx hb hr (fun t ht hW => ⟨⟨2, (), rfl, hk9.symm, by rw [ht]; exact hP, hD⟩, hS.F ht⟩) hS.2.2 dL_fill_20
  rw [wrW_mxP] at hP hD
  refine lv_i2l hx hb dL_fill_8 rfl ?_
  refine lstN hx hb hK hP hD hS 35 1 rfl rfl 0 (by omega) ((Nat.le_of_ble_eq_true rfl)) dL_fill_9 (fun H locs hP hD hS => ?_)
  rw [wrW_set] at hP hD
  have hP : va_P D vwCl (wrW cI cL cM a o (xs_tx x (q_fl v q.toNatClampNeg (x_tx x))) (vp_updL f 0 ((nI (q_c (q_fl v q.toNatClampNeg (x_tx x)))).toInt64))) H := hP
  have hD : va_D A (wrW cI cL cM a o (xs_tx x (q_fl v q.toNatClampNeg (x_tx x))) (vp_updL f 0 ((nI (q_c (q_fl v q.toNatClampNeg (x_tx x)))).toInt64))) := hD
  refine lv_goto (tgt := 21) hx hb dL_fill_10 (by decide) ?_
  refine lv_iconst (v := 0) hx hb dL_fill_21 (by decide) ?_
  have hw9 : (wrW cI cL cM a o (xs_tx x (q_fl v q.toNatClampNeg (x_tx x))) (vp_updL f 0 ((nI (q_c (q_fl v q.toNatClampNeg (x_tx x)))).toInt64))) = (wrW cI cL cM a o (if cdFil x v q = 0 then (xs_tx x (q_fl v q.toNatClampNeg (x_tx x))) else x) (if cdFil x v q = 0 then vp_updL f 0 (nI (q_c (q_fl v q.toNatClampNeg (x_tx x)))).toInt64 else f)) := by rw [if_pos hok, if_pos hok]
  rw [hw9] at hP hD
  refine vx_ret ?_
  refine W.widen (k := 3) (n := 18) (Nat.le_of_ble_eq_true rfl) (Nat.le_of_ble_eq_true rfl) ?_
  exact W.iret (v := 0) hx hb hr (fun t ht hW => ⟨⟨0, (), rfl, hok.symm, by rw [ht]; exact hP, hD⟩, hS.F ht⟩) hS.2.2 dL_fill_22

set_option maxHeartbeats 4000000 in
set_option maxRecDepth 100000 in
theorem c_L_cut (l : Launch) (hnt : l.stackTraces = false) (D : va_G) (cI cL cM : ClassId) (A : Nat → Prop) (sa : Nat → Nat) (a : Nat → Nat) (o : Nat) (x : Mx) (f : Nat → Int64) (q : Int32) (htc : q_c (x_tx x) ≤ 80) : mW l yL_cut wsL_cut ({ frames := 8, cells := 3, slots := 18, locals := 132 }) D (tB cI cL cM) A sa [.ref (a 0), .int q, .ref o] (wrW cI cL cM a o x f) (cdCut (x_tx x) q) (wrW cI cL cM a o (if cdCut (x_tx x) q = 0 then (xs_tx x (qs_c (x_tx x) (q_c (x_tx x) - q.toNatClampNeg))) else x) (if cdCut (x_tx x) q = 0 then vp_updL f 0 (nI (q_c (x_tx x) - q.toNatClampNeg)).toInt64 else f)) := by
  refine vx_ofWH (cc := cL_cut) (maxL := 4) (ret := (some .int)) (by decide) rfl ?_
  intro p e s m args below meth c s₁ B hml hv
  obtain ⟨rfl, ⟨hP, hEX, hD, hA⟩, hN⟩ := hv
  have hE := hEX.1
  have hK := hE.1
  have hx := B.exec
  have hb := B.bytes
  have hr := B.returns
  have hts := atoms_spec (ws := wsL_cut) B.pre
  have htb := vx_table (x := yL_cut) B (hts _ List.mem_cons_self)
  have hown : s.vm.findClass RL = some m.cls := findClass_of_methodNamed B.named
  have hlocks := B.notSynchronized
  have hS : va_S A s.heap s.heap [] := va_S.rf
  have hl := lv_entry ([.ref (a 0), .int q, .ref o]) (n := 4) (Nat.le_of_ble_eq_true rfl)
  rw [lg_entry_eq]
  generalize (lg_sl ([.ref (a 0), .int q, .ref o]) ++ List.replicate (4 - (lg_sl ([.ref (a 0), .int q, .ref o])).length) Slot.unset).toArray = ls at hl ⊢
  have hl : lv_has ls 4 [(0, .ref (a 0)), (1, .int q), (2, .ref o)] := hl
  refine lv_aload_n hx hb dL_cut_0 rfl (lv_at hl 2 rfl) ?_
  refine lv_iconst (v := 0) hx hb dL_cut_1 (by decide) ?_
  refine lv_aload_n hx hb dL_cut_2 rfl (lv_at hl 0 rfl) ?_
  refine lv_iload_n hx hb dL_cut_3 rfl (lv_at hl 1 rfl) ?_
  refine kIg (xVg (As := [.int q]) (rest := [.int 0, .ref o]) ⟨hx, hb, hml, hown, hts⟩ (c_X4_cut l hnt D cI cL cM _ sa a x q htc) (cwV 1 hts gL_cut_X4_cut rfl rfl rfl (by decide +kernel) ⟨(Nat.le_of_ble_eq_true rfl), (Nat.le_of_ble_eq_true rfl)⟩) hEX hP hD hS hA (segI 0 35) seg35 (wrW_mxC cI cL cM a o x f) 0 rfl (wrW_0 cI cL cM a o x f) rfl hl.1 rfl (Nat.le_of_ble_eq_true rfl) dL_cut_4 ⟨(Nat.le_of_ble_eq_true rfl), (Nat.le_of_ble_eq_true rfl)⟩) hP hD hS hA (is := segI 0 35) (wrW_mxC cI cL cM a o x f) (mxW_fst cI cL cM a _ _) (fun E9 ce9 q9 H locs hth9 hP hS h91 h92 h93 => ?_) (fun H locs hok hP hD hS => ?_)
  · obtain ⟨rfl, hk9⟩ := hth9
    refine vx_catch hown [] ⟨0, 9, 12, 13⟩ [] htb (fun _ h => absurd h List.not_mem_nil) (by decide) (by decide) (hts _ (List.mem_of_getElem? (i := 1) rfl)) (xW_use hEX.2.2.2.2 _ _ (List.mem_of_getElem? (i := 3) rfl)) h91 h92 h93 ?_
    have hk0 : ¬ cdCut (x_tx x) q = 0 := by rw [hk9]; decide
    refine lv_astore_n (lv' := [(3, .ref q9), (0, .ref (a 0)), (1, .int q), (2, .ref o)]) hx hb dL_cut_12 rfl hl (by decide) rfl (fun ls hl => ?_)
    refine lv_iconst (v := 1) hx hb dL_cut_13 (by decide) ?_
    have hw9 : (wrW cI cL cM a o x f) = (wrW cI cL cM a o (if cdCut (x_tx x) q = 0 then (xs_tx x (qs_c (x_tx x) (q_c (x_tx x) - q.toNatClampNeg))) else x) (if cdCut (x_tx x) q = 0 then vp_updL f 0 (nI (q_c (x_tx x) - q.toNatClampNeg)).toInt64 else f)) := by rw [if_neg hk0, if_neg hk0]
    rw [hw9] at hP hD
    refine vx_ret ?_
    refine W.widen (k := 3) (n := 18) (Nat.le_of_ble_eq_true rfl) (Nat.le_of_ble_eq_true rfl) ?_
    exact W.iret (v := 1) hx hb hr (fun t ht hW => ⟨⟨1, (), rfl, hk9.symm, by rw [ht]; exact hP, hD⟩, hS.F ht⟩) hS.2.2 dL_cut_14
  rw [wrW_mxP] at hP hD
  refine lv_i2l hx hb dL_cut_7 rfl ?_
  refine lstN hx hb hK hP hD hS 35 1 rfl rfl 0 (by omega) ((Nat.le_of_ble_eq_true rfl)) dL_cut_8 (fun H locs hP hD hS => ?_)
  rw [wrW_set] at hP hD
  have hP : va_P D vwCl (wrW cI cL cM a o (xs_tx x (qs_c (x_tx x) (q_c (x_tx x) - q.toNatClampNeg))) (vp_updL f 0 ((nI (q_c (x_tx x) - q.toNatClampNeg)).toInt64))) H := hP
  have hD : va_D A (wrW cI cL cM a o (xs_tx x (qs_c (x_tx x) (q_c (x_tx x) - q.toNatClampNeg))) (vp_updL f 0 ((nI (q_c (x_tx x) - q.toNatClampNeg)).toInt64))) := hD
  refine lv_goto (tgt := 15) hx hb dL_cut_9 (by decide) ?_
  refine lv_iconst (v := 0) hx hb dL_cut_15 (by decide) ?_
  have hw9 : (wrW cI cL cM a o (xs_tx x (qs_c (x_tx x) (q_c (x_tx x) - q.toNatClampNeg))) (vp_updL f 0 ((nI (q_c (x_tx x) - q.toNatClampNeg)).toInt64))) = (wrW cI cL cM a o (if cdCut (x_tx x) q = 0 then (xs_tx x (qs_c (x_tx x) (q_c (x_tx x) - q.toNatClampNeg))) else x) (if cdCut (x_tx x) q = 0 then vp_updL f 0 (nI (q_c (x_tx x) - q.toNatClampNeg)).toInt64 else f)) := by rw [if_pos hok, if_pos hok]
  rw [hw9] at hP hD
  refine vx_ret ?_
  refine W.widen (k := 3) (n := 18) (Nat.le_of_ble_eq_true rfl) (Nat.le_of_ble_eq_true rfl) ?_
  exact W.iret (v := 0) hx hb hr (fun t ht hW => ⟨⟨0, (), rfl, hok.symm, by rw [ht]; exact hP, hD⟩, hS.F ht⟩) hS.2.2 dL_cut_16

set_option maxHeartbeats 4000000 in
set_option maxRecDepth 100000 in
theorem c_L_byteAt (l : Launch) (hnt : l.stackTraces = false) (D : va_G) (cI cL cM : ClassId) (A : Nat → Prop) (sa : Nat → Nat) (a : Nat → Nat) (o : Nat) (x : Mx) (f : Nat → Int64) (q : Int32) (htc : q_c (x_tx x) ≤ 80) : mW l yL_byteAt wsL_byteAt ({ frames := 8, cells := 3, slots := 18, locals := 132 }) D (tB cI cL cM) A sa [.ref (a 0), .int q, .ref o] (wrW cI cL cM a o x f) (cdPlc (x_tx x) q) (wrW cI cL cM a o (if cdPlc (x_tx x) q = 0 then x else x) (if cdPlc (x_tx x) q = 0 then vp_updL f 0 (q_at (x_tx x) q).toInt64 else f)) := by
  refine vx_ofWH (cc := cL_byteAt) (maxL := 4) (ret := (some .int)) (by decide) rfl ?_
  intro p e s m args below meth c s₁ B hml hv
  obtain ⟨rfl, ⟨hP, hEX, hD, hA⟩, hN⟩ := hv
  have hE := hEX.1
  have hK := hE.1
  have hx := B.exec
  have hb := B.bytes
  have hr := B.returns
  have hts := atoms_spec (ws := wsL_byteAt) B.pre
  have htb := vx_table (x := yL_byteAt) B (hts _ List.mem_cons_self)
  have hown : s.vm.findClass RL = some m.cls := findClass_of_methodNamed B.named
  have hlocks := B.notSynchronized
  have hS : va_S A s.heap s.heap [] := va_S.rf
  have hl := lv_entry ([.ref (a 0), .int q, .ref o]) (n := 4) (Nat.le_of_ble_eq_true rfl)
  rw [lg_entry_eq]
  generalize (lg_sl ([.ref (a 0), .int q, .ref o]) ++ List.replicate (4 - (lg_sl ([.ref (a 0), .int q, .ref o])).length) Slot.unset).toArray = ls at hl ⊢
  have hl : lv_has ls 4 [(0, .ref (a 0)), (1, .int q), (2, .ref o)] := hl
  refine lv_aload_n hx hb dL_byteAt_0 rfl (lv_at hl 2 rfl) ?_
  refine lv_iconst (v := 0) hx hb dL_byteAt_1 (by decide) ?_
  refine lv_aload_n hx hb dL_byteAt_2 rfl (lv_at hl 0 rfl) ?_
  refine lv_iload_n hx hb dL_byteAt_3 rfl (lv_at hl 1 rfl) ?_
  refine kIg (xVg (As := [.int q]) (rest := [.int 0, .ref o]) ⟨hx, hb, hml, hown, hts⟩ (c_X4_byteAt l hnt D cI cL cM _ sa a x q htc) (cwV 1 hts gL_byteAt_X4_byteAt rfl rfl rfl (by decide +kernel) ⟨(Nat.le_of_ble_eq_true rfl), (Nat.le_of_ble_eq_true rfl)⟩) hEX hP hD hS hA (segI 0 35) seg35 (wrW_mxC cI cL cM a o x f) 0 rfl (wrW_0 cI cL cM a o x f) rfl hl.1 rfl (Nat.le_of_ble_eq_true rfl) dL_byteAt_4 ⟨(Nat.le_of_ble_eq_true rfl), (Nat.le_of_ble_eq_true rfl)⟩) hP hD hS hA (is := segI 0 35) (wrW_mxC cI cL cM a o x f) (mxW_fst cI cL cM a _ _) (fun E9 ce9 q9 H locs hth9 hP hS h91 h92 h93 => ?_) (fun H locs hok hP hD hS => ?_)
  · obtain ⟨rfl, hk9⟩ := hth9
    refine vx_catch hown [] ⟨0, 9, 12, 25⟩ [] htb (fun _ h => absurd h List.not_mem_nil) (by decide) (by decide) (hts _ (List.mem_of_getElem? (i := 1) rfl)) (xW_use hEX.2.2.2.2 _ _ (List.mem_of_getElem? (i := 5) rfl)) h91 h92 h93 ?_
    have hk0 : ¬ cdPlc (x_tx x) q = 0 := by rw [hk9]; decide
    refine lv_astore_n (lv' := [(3, .ref q9), (0, .ref (a 0)), (1, .int q), (2, .ref o)]) hx hb dL_byteAt_12 rfl hl (by decide) rfl (fun ls hl => ?_)
    refine lv_iconst (v := 1) hx hb dL_byteAt_13 (by decide) ?_
    have hw9 : (wrW cI cL cM a o x f) = (wrW cI cL cM a o (if cdPlc (x_tx x) q = 0 then x else x) (if cdPlc (x_tx x) q = 0 then vp_updL f 0 (q_at (x_tx x) q).toInt64 else f)) := by rw [if_neg hk0, if_neg hk0]
    rw [hw9] at hP hD
    refine vx_ret ?_
    refine W.widen (k := 3) (n := 18) (Nat.le_of_ble_eq_true rfl) (Nat.le_of_ble_eq_true rfl) ?_
    exact W.iret (v := 1) hx hb hr (fun t ht hW => ⟨⟨1, (), rfl, hk9.symm, by rw [ht]; exact hP, hD⟩, hS.F ht⟩) hS.2.2 dL_byteAt_14
  rw [wrW_mxP] at hP hD
  refine lv_i2l hx hb dL_byteAt_7 rfl ?_
  refine lstN hx hb hK hP hD hS 35 1 rfl rfl 0 (by omega) ((Nat.le_of_ble_eq_true rfl)) dL_byteAt_8 (fun H locs hP hD hS => ?_)
  rw [wrW_set] at hP hD
  have hP : va_P D vwCl (wrW cI cL cM a o x (vp_updL f 0 ((q_at (x_tx x) q).toInt64))) H := hP
  have hD : va_D A (wrW cI cL cM a o x (vp_updL f 0 ((q_at (x_tx x) q).toInt64))) := hD
  refine lv_goto (tgt := 15) hx hb dL_byteAt_9 (by decide) ?_
  refine lv_iconst (v := 0) hx hb dL_byteAt_15 (by decide) ?_
  have hw9 : (wrW cI cL cM a o x (vp_updL f 0 ((q_at (x_tx x) q).toInt64))) = (wrW cI cL cM a o (if cdPlc (x_tx x) q = 0 then x else x) (if cdPlc (x_tx x) q = 0 then vp_updL f 0 (q_at (x_tx x) q).toInt64 else f)) := by rw [if_pos hok, if_pos hok]
  rw [hw9] at hP hD
  refine vx_ret ?_
  refine W.widen (k := 3) (n := 18) (Nat.le_of_ble_eq_true rfl) (Nat.le_of_ble_eq_true rfl) ?_
  exact W.iret (v := 0) hx hb hr (fun t ht hW => ⟨⟨0, (), rfl, hok.symm, by rw [ht]; exact hP, hD⟩, hS.F ht⟩) hS.2.2 dL_byteAt_16

set_option maxHeartbeats 4000000 in
set_option maxRecDepth 100000 in
theorem c_L_prediction (l : Launch) (hnt : l.stackTraces = false) (D : va_G) (cI cL cM : ClassId) (A : Nat → Prop) (sa : Nat → Nat) (a : Nat → Nat) (o : Nat) (x : Mx) (f : Nat → Int64) (q : Int32) (hn6 : k_n (x_pr x) ≤ 6) (hpl : ∀ j, j < k_n (x_pr x) → vp_in (o_pl (k_mo (x_pr x) j)) 512) : mW l yL_prediction wsL_prediction ({ frames := 8, cells := 3, slots := 18, locals := 132 }) D (tB cI cL cM) A sa [.ref (a 0), .int q, .ref o] (wrW cI cL cM a o x f) (cdMod x q) (wrW cI cL cM a o (if cdMod x q = 0 then x else x) (if cdMod x q = 0 then vp_updL f 0 (o_gs (k_mo (x_pr x) q.toNatClampNeg)).toInt64 else f)) := by
  refine vx_ofWH (cc := cL_prediction) (maxL := 4) (ret := (some .int)) (by decide) rfl ?_
  intro p e s m args below meth c s₁ B hml hv
  obtain ⟨rfl, ⟨hP, hEX, hD, hA⟩, hN⟩ := hv
  have hE := hEX.1
  have hK := hE.1
  have hx := B.exec
  have hb := B.bytes
  have hr := B.returns
  have hts := atoms_spec (ws := wsL_prediction) B.pre
  have htb := vx_table (x := yL_prediction) B (hts _ List.mem_cons_self)
  have hown : s.vm.findClass RL = some m.cls := findClass_of_methodNamed B.named
  have hlocks := B.notSynchronized
  have hS : va_S A s.heap s.heap [] := va_S.rf
  have hl := lv_entry ([.ref (a 0), .int q, .ref o]) (n := 4) (Nat.le_of_ble_eq_true rfl)
  rw [lg_entry_eq]
  generalize (lg_sl ([.ref (a 0), .int q, .ref o]) ++ List.replicate (4 - (lg_sl ([.ref (a 0), .int q, .ref o])).length) Slot.unset).toArray = ls at hl ⊢
  have hl : lv_has ls 4 [(0, .ref (a 0)), (1, .int q), (2, .ref o)] := hl
  refine lv_aload_n hx hb dL_prediction_0 rfl (lv_at hl 2 rfl) ?_
  refine lv_iconst (v := 0) hx hb dL_prediction_1 (by decide) ?_
  refine lv_aload_n hx hb dL_prediction_2 rfl (lv_at hl 0 rfl) ?_
  refine lv_iload_n hx hb dL_prediction_3 rfl (lv_at hl 1 rfl) ?_
  refine kIg (xVg (As := [.int q]) (rest := [.int 0, .ref o]) ⟨hx, hb, hml, hown, hts⟩ (c_X4_prediction l hnt D cI cL cM _ sa a x q hn6 hpl) (cwV 1 hts gL_prediction_X4_prediction rfl rfl rfl (by decide +kernel) ⟨(Nat.le_of_ble_eq_true rfl), (Nat.le_of_ble_eq_true rfl)⟩) hEX hP hD hS hA (segI 0 35) seg35 (wrW_mxC cI cL cM a o x f) 0 rfl (wrW_0 cI cL cM a o x f) rfl hl.1 rfl (Nat.le_of_ble_eq_true rfl) dL_prediction_4 ⟨(Nat.le_of_ble_eq_true rfl), (Nat.le_of_ble_eq_true rfl)⟩) hP hD hS hA (is := segI 0 35) (wrW_mxC cI cL cM a o x f) (mxW_fst cI cL cM a _ _) (fun E9 ce9 q9 H locs hth9 hP hS h91 h92 h93 => ?_) (fun H locs hok hP hD hS => ?_)
  · obtain ⟨rfl, hk9⟩ := hth9
    refine vx_catch hown [] ⟨0, 9, 12, 25⟩ [] htb (fun _ h => absurd h List.not_mem_nil) (by decide) (by decide) (hts _ (List.mem_of_getElem? (i := 1) rfl)) (xW_use hEX.2.2.2.2 _ _ (List.mem_of_getElem? (i := 5) rfl)) h91 h92 h93 ?_
    have hk0 : ¬ cdMod x q = 0 := by rw [hk9]; decide
    refine lv_astore_n (lv' := [(3, .ref q9), (0, .ref (a 0)), (1, .int q), (2, .ref o)]) hx hb dL_prediction_12 rfl hl (by decide) rfl (fun ls hl => ?_)
    refine lv_iconst (v := 1) hx hb dL_prediction_13 (by decide) ?_
    have hw9 : (wrW cI cL cM a o x f) = (wrW cI cL cM a o (if cdMod x q = 0 then x else x) (if cdMod x q = 0 then vp_updL f 0 (o_gs (k_mo (x_pr x) q.toNatClampNeg)).toInt64 else f)) := by rw [if_neg hk0, if_neg hk0]
    rw [hw9] at hP hD
    refine vx_ret ?_
    refine W.widen (k := 3) (n := 18) (Nat.le_of_ble_eq_true rfl) (Nat.le_of_ble_eq_true rfl) ?_
    exact W.iret (v := 1) hx hb hr (fun t ht hW => ⟨⟨1, (), rfl, hk9.symm, by rw [ht]; exact hP, hD⟩, hS.F ht⟩) hS.2.2 dL_prediction_14
  rw [wrW_mxP] at hP hD
  refine lv_i2l hx hb dL_prediction_7 rfl ?_
  refine lstN hx hb hK hP hD hS 35 1 rfl rfl 0 (by omega) ((Nat.le_of_ble_eq_true rfl)) dL_prediction_8 (fun H locs hP hD hS => ?_)
  rw [wrW_set] at hP hD
  have hP : va_P D vwCl (wrW cI cL cM a o x (vp_updL f 0 ((o_gs (k_mo (x_pr x) q.toNatClampNeg)).toInt64))) H := hP
  have hD : va_D A (wrW cI cL cM a o x (vp_updL f 0 ((o_gs (k_mo (x_pr x) q.toNatClampNeg)).toInt64))) := hD
  refine lv_goto (tgt := 15) hx hb dL_prediction_9 (by decide) ?_
  refine lv_iconst (v := 0) hx hb dL_prediction_15 (by decide) ?_
  have hw9 : (wrW cI cL cM a o x (vp_updL f 0 ((o_gs (k_mo (x_pr x) q.toNatClampNeg)).toInt64))) = (wrW cI cL cM a o (if cdMod x q = 0 then x else x) (if cdMod x q = 0 then vp_updL f 0 (o_gs (k_mo (x_pr x) q.toNatClampNeg)).toInt64 else f)) := by rw [if_pos hok, if_pos hok]
  rw [hw9] at hP hD
  refine vx_ret ?_
  refine W.widen (k := 3) (n := 18) (Nat.le_of_ble_eq_true rfl) (Nat.le_of_ble_eq_true rfl) ?_
  exact W.iret (v := 0) hx hb hr (fun t ht hW => ⟨⟨0, (), rfl, hok.symm, by rw [ht]; exact hP, hD⟩, hS.F ht⟩) hS.2.2 dL_prediction_16

set_option maxHeartbeats 4000000 in
set_option maxRecDepth 100000 in
theorem c_L_index (l : Launch) (hnt : l.stackTraces = false) (D : va_G) (cI cL cM : ClassId) (A : Nat → Prop) (sa : Nat → Nat) (a : Nat → Nat) (o : Nat) (x : Mx) (f : Nat → Int64) (q : Int32) (hn6 : k_n (x_pr x) ≤ 6) : mW l yL_index wsL_index ({ frames := 8, cells := 3, slots := 18, locals := 132 }) D (tB cI cL cM) A sa [.ref (a 0), .int q, .ref o] (wrW cI cL cM a o x f) (cdMod x q) (wrW cI cL cM a o (if cdMod x q = 0 then x else x) (if cdMod x q = 0 then vp_updL f 0 (o_pl (k_mo (x_pr x) q.toNatClampNeg)).toInt64 else f)) := by
  refine vx_ofWH (cc := cL_index) (maxL := 4) (ret := (some .int)) (by decide) rfl ?_
  intro p e s m args below meth c s₁ B hml hv
  obtain ⟨rfl, ⟨hP, hEX, hD, hA⟩, hN⟩ := hv
  have hE := hEX.1
  have hK := hE.1
  have hx := B.exec
  have hb := B.bytes
  have hr := B.returns
  have hts := atoms_spec (ws := wsL_index) B.pre
  have htb := vx_table (x := yL_index) B (hts _ List.mem_cons_self)
  have hown : s.vm.findClass RL = some m.cls := findClass_of_methodNamed B.named
  have hlocks := B.notSynchronized
  have hS : va_S A s.heap s.heap [] := va_S.rf
  have hl := lv_entry ([.ref (a 0), .int q, .ref o]) (n := 4) (Nat.le_of_ble_eq_true rfl)
  rw [lg_entry_eq]
  generalize (lg_sl ([.ref (a 0), .int q, .ref o]) ++ List.replicate (4 - (lg_sl ([.ref (a 0), .int q, .ref o])).length) Slot.unset).toArray = ls at hl ⊢
  have hl : lv_has ls 4 [(0, .ref (a 0)), (1, .int q), (2, .ref o)] := hl
  refine lv_aload_n hx hb dL_index_0 rfl (lv_at hl 2 rfl) ?_
  refine lv_iconst (v := 0) hx hb dL_index_1 (by decide) ?_
  refine lv_aload_n hx hb dL_index_2 rfl (lv_at hl 0 rfl) ?_
  refine lv_iload_n hx hb dL_index_3 rfl (lv_at hl 1 rfl) ?_
  refine kIg (xVg (As := [.int q]) (rest := [.int 0, .ref o]) ⟨hx, hb, hml, hown, hts⟩ (c_X4_index l hnt D cI cL cM _ sa a x q hn6) (cwV 1 hts gL_index_X4_index rfl rfl rfl (by decide +kernel) ⟨(Nat.le_of_ble_eq_true rfl), (Nat.le_of_ble_eq_true rfl)⟩) hEX hP hD hS hA (segI 0 35) seg35 (wrW_mxC cI cL cM a o x f) 0 rfl (wrW_0 cI cL cM a o x f) rfl hl.1 rfl (Nat.le_of_ble_eq_true rfl) dL_index_4 ⟨(Nat.le_of_ble_eq_true rfl), (Nat.le_of_ble_eq_true rfl)⟩) hP hD hS hA (is := segI 0 35) (wrW_mxC cI cL cM a o x f) (mxW_fst cI cL cM a _ _) (fun E9 ce9 q9 H locs hth9 hP hS h91 h92 h93 => ?_) (fun H locs hok hP hD hS => ?_)
  · obtain ⟨rfl, hk9⟩ := hth9
    refine vx_catch hown [] ⟨0, 9, 12, 25⟩ [] htb (fun _ h => absurd h List.not_mem_nil) (by decide) (by decide) (hts _ (List.mem_of_getElem? (i := 1) rfl)) (xW_use hEX.2.2.2.2 _ _ (List.mem_of_getElem? (i := 5) rfl)) h91 h92 h93 ?_
    have hk0 : ¬ cdMod x q = 0 := by rw [hk9]; decide
    refine lv_astore_n (lv' := [(3, .ref q9), (0, .ref (a 0)), (1, .int q), (2, .ref o)]) hx hb dL_index_12 rfl hl (by decide) rfl (fun ls hl => ?_)
    refine lv_iconst (v := 1) hx hb dL_index_13 (by decide) ?_
    have hw9 : (wrW cI cL cM a o x f) = (wrW cI cL cM a o (if cdMod x q = 0 then x else x) (if cdMod x q = 0 then vp_updL f 0 (o_pl (k_mo (x_pr x) q.toNatClampNeg)).toInt64 else f)) := by rw [if_neg hk0, if_neg hk0]
    rw [hw9] at hP hD
    refine vx_ret ?_
    refine W.widen (k := 3) (n := 18) (Nat.le_of_ble_eq_true rfl) (Nat.le_of_ble_eq_true rfl) ?_
    exact W.iret (v := 1) hx hb hr (fun t ht hW => ⟨⟨1, (), rfl, hk9.symm, by rw [ht]; exact hP, hD⟩, hS.F ht⟩) hS.2.2 dL_index_14
  rw [wrW_mxP] at hP hD
  refine lv_i2l hx hb dL_index_7 rfl ?_
  refine lstN hx hb hK hP hD hS 35 1 rfl rfl 0 (by omega) ((Nat.le_of_ble_eq_true rfl)) dL_index_8 (fun H locs hP hD hS => ?_)
  rw [wrW_set] at hP hD
  have hP : va_P D vwCl (wrW cI cL cM a o x (vp_updL f 0 ((o_pl (k_mo (x_pr x) q.toNatClampNeg)).toInt64))) H := hP
  have hD : va_D A (wrW cI cL cM a o x (vp_updL f 0 ((o_pl (k_mo (x_pr x) q.toNatClampNeg)).toInt64))) := hD
  refine lv_goto (tgt := 15) hx hb dL_index_9 (by decide) ?_
  refine lv_iconst (v := 0) hx hb dL_index_15 (by decide) ?_
  have hw9 : (wrW cI cL cM a o x (vp_updL f 0 ((o_pl (k_mo (x_pr x) q.toNatClampNeg)).toInt64))) = (wrW cI cL cM a o (if cdMod x q = 0 then x else x) (if cdMod x q = 0 then vp_updL f 0 (o_pl (k_mo (x_pr x) q.toNatClampNeg)).toInt64 else f)) := by rw [if_pos hok, if_pos hok]
  rw [hw9] at hP hD
  refine vx_ret ?_
  refine W.widen (k := 3) (n := 18) (Nat.le_of_ble_eq_true rfl) (Nat.le_of_ble_eq_true rfl) ?_
  exact W.iret (v := 0) hx hb hr (fun t ht hW => ⟨⟨0, (), rfl, hok.symm, by rw [ht]; exact hP, hD⟩, hS.F ht⟩) hS.2.2 dL_index_16

set_option maxHeartbeats 4000000 in
set_option maxRecDepth 100000 in
theorem c_L_counter (l : Launch) (hnt : l.stackTraces = false) (D : va_G) (cI cL cM : ClassId) (A : Nat → Prop) (sa : Nat → Nat) (a : Nat → Nat) (o : Nat) (x : Mx) (f : Nat → Int64) (q i : Int32) (hn6 : k_n (x_pr x) ≤ 6) (hts9 : ∀ j, j < k_n (x_pr x) → 0 < (o_ts (k_mo (x_pr x) j)).toInt ∧ (o_ts (k_mo (x_pr x) j)).toInt ≤ 512) : mW l yL_counter wsL_counter ({ frames := 8, cells := 3, slots := 18, locals := 134 }) D (tB cI cL cM) A sa [.ref (a 0), .int q, .int i, .ref o] (wrW cI cL cM a o x f) (cdCnt x q i) (wrW cI cL cM a o (if cdCnt x q i = 0 then x else x) (if cdCnt x q i = 0 then vp_updL f 0 (o_co (k_mo (x_pr x) q.toNatClampNeg) i.toNatClampNeg).toInt64 else f)) := by
  refine vx_ofWH (cc := cL_counter) (maxL := 5) (ret := (some .int)) (by decide) rfl ?_
  intro p e s m args below meth c s₁ B hml hv
  obtain ⟨rfl, ⟨hP, hEX, hD, hA⟩, hN⟩ := hv
  have hE := hEX.1
  have hK := hE.1
  have hx := B.exec
  have hb := B.bytes
  have hr := B.returns
  have hts := atoms_spec (ws := wsL_counter) B.pre
  have htb := vx_table (x := yL_counter) B (hts _ List.mem_cons_self)
  have hown : s.vm.findClass RL = some m.cls := findClass_of_methodNamed B.named
  have hlocks := B.notSynchronized
  have hS : va_S A s.heap s.heap [] := va_S.rf
  have hl := lv_entry ([.ref (a 0), .int q, .int i, .ref o]) (n := 5) (Nat.le_of_ble_eq_true rfl)
  rw [lg_entry_eq]
  generalize (lg_sl ([.ref (a 0), .int q, .int i, .ref o]) ++ List.replicate (5 - (lg_sl ([.ref (a 0), .int q, .int i, .ref o])).length) Slot.unset).toArray = ls at hl ⊢
  have hl : lv_has ls 5 [(0, .ref (a 0)), (1, .int q), (2, .int i), (3, .ref o)] := hl
  refine lv_aload_n hx hb dL_counter_0 rfl (lv_at hl 3 rfl) ?_
  refine lv_iconst (v := 0) hx hb dL_counter_1 (by decide) ?_
  refine lv_aload_n hx hb dL_counter_2 rfl (lv_at hl 0 rfl) ?_
  refine lv_iload_n hx hb dL_counter_3 rfl (lv_at hl 1 rfl) ?_
  refine lv_iload_n hx hb dL_counter_4 rfl (lv_at hl 2 rfl) ?_
  refine kIg (xVg (As := [.int q, .int i]) (rest := [.int 0, .ref o]) ⟨hx, hb, hml, hown, hts⟩ (c_X4_counter l hnt D cI cL cM _ sa a x q i hn6 hts9) (cwV 2 hts gL_counter_X4_counter rfl rfl rfl (by decide +kernel) ⟨(Nat.le_of_ble_eq_true rfl), (Nat.le_of_ble_eq_true rfl)⟩) hEX hP hD hS hA (segI 0 35) seg35 (wrW_mxC cI cL cM a o x f) 0 rfl (wrW_0 cI cL cM a o x f) rfl hl.1 rfl (Nat.le_of_ble_eq_true rfl) dL_counter_5 ⟨(Nat.le_of_ble_eq_true rfl), (Nat.le_of_ble_eq_true rfl)⟩) hP hD hS hA (is := segI 0 35) (wrW_mxC cI cL cM a o x f) (mxW_fst cI cL cM a _ _) (fun E9 ce9 q9 H locs hth9 hP hS h91 h92 h93 => ?_) (fun H locs hok hP hD hS => ?_)
  · obtain ⟨rfl, hk9⟩ := hth9
    refine vx_catch hown [] ⟨0, 10, 13, 25⟩ [] htb (fun _ h => absurd h List.not_mem_nil) (by decide) (by decide) (hts _ (List.mem_of_getElem? (i := 1) rfl)) (xW_use hEX.2.2.2.2 _ _ (List.mem_of_getElem? (i := 5) rfl)) h91 h92 h93 ?_
    have hk0 : ¬ cdCnt x q i = 0 := by rw [hk9]; decide
    refine lv_astore (lv' := [(4, .ref q9), (0, .ref (a 0)), (1, .int q), (2, .int i), (3, .ref o)]) hx hb dL_counter_13 hl (by decide) rfl (fun ls hl => ?_)
    refine lv_iconst (v := 1) hx hb dL_counter_15 (by decide) ?_
    have hw9 : (wrW cI cL cM a o x f) = (wrW cI cL cM a o (if cdCnt x q i = 0 then x else x) (if cdCnt x q i = 0 then vp_updL f 0 (o_co (k_mo (x_pr x) q.toNatClampNeg) i.toNatClampNeg).toInt64 else f)) := by rw [if_neg hk0, if_neg hk0]
    rw [hw9] at hP hD
    refine vx_ret ?_
    refine W.widen (k := 3) (n := 18) (Nat.le_of_ble_eq_true rfl) (Nat.le_of_ble_eq_true rfl) ?_
    exact W.iret (v := 1) hx hb hr (fun t ht hW => ⟨⟨1, (), rfl, hk9.symm, by rw [ht]; exact hP, hD⟩, hS.F ht⟩) hS.2.2 dL_counter_16
  rw [wrW_mxP] at hP hD
  refine lv_i2l hx hb dL_counter_8 rfl ?_
  refine lstN hx hb hK hP hD hS 35 1 rfl rfl 0 (by omega) ((Nat.le_of_ble_eq_true rfl)) dL_counter_9 (fun H locs hP hD hS => ?_)
  rw [wrW_set] at hP hD
  have hP : va_P D vwCl (wrW cI cL cM a o x (vp_updL f 0 ((o_co (k_mo (x_pr x) q.toNatClampNeg) i.toNatClampNeg).toInt64))) H := hP
  have hD : va_D A (wrW cI cL cM a o x (vp_updL f 0 ((o_co (k_mo (x_pr x) q.toNatClampNeg) i.toNatClampNeg).toInt64))) := hD
  refine lv_goto (tgt := 17) hx hb dL_counter_10 (by decide) ?_
  refine lv_iconst (v := 0) hx hb dL_counter_17 (by decide) ?_
  have hw9 : (wrW cI cL cM a o x (vp_updL f 0 ((o_co (k_mo (x_pr x) q.toNatClampNeg) i.toNatClampNeg).toInt64))) = (wrW cI cL cM a o (if cdCnt x q i = 0 then x else x) (if cdCnt x q i = 0 then vp_updL f 0 (o_co (k_mo (x_pr x) q.toNatClampNeg) i.toNatClampNeg).toInt64 else f)) := by rw [if_pos hok, if_pos hok]
  rw [hw9] at hP hD
  refine vx_ret ?_
  refine W.widen (k := 3) (n := 18) (Nat.le_of_ble_eq_true rfl) (Nat.le_of_ble_eq_true rfl) ?_
  exact W.iret (v := 0) hx hb hr (fun t ht hW => ⟨⟨0, (), rfl, hok.symm, by rw [ht]; exact hP, hD⟩, hS.F ht⟩) hS.2.2 dL_counter_18

set_option maxHeartbeats 4000000 in
set_option maxRecDepth 100000 in
theorem c_L_weight (l : Launch) (hnt : l.stackTraces = false) (D : va_G) (cI cL cM : ClassId) (A : Nat → Prop) (sa : Nat → Nat) (a : Nat → Nat) (o : Nat) (x : Mx) (f : Nat → Int64) (q i : Int32) (hn6 : k_n (x_pr x) ≤ 6) : mW l yL_weight wsL_weight ({ frames := 8, cells := 3, slots := 18, locals := 134 }) D (tB cI cL cM) A sa [.ref (a 0), .int q, .int i, .ref o] (wrW cI cL cM a o x f) (cdWei x q i) (wrW cI cL cM a o (if cdWei x q i = 0 then x else x) (if cdWei x q i = 0 then vp_updL f 0 (o_we (k_mo (x_pr x) q.toNatClampNeg) i.toNatClampNeg).toInt64 else f)) := by
  refine vx_ofWH (cc := cL_weight) (maxL := 5) (ret := (some .int)) (by decide) rfl ?_
  intro p e s m args below meth c s₁ B hml hv
  obtain ⟨rfl, ⟨hP, hEX, hD, hA⟩, hN⟩ := hv
  have hE := hEX.1
  have hK := hE.1
  have hx := B.exec
  have hb := B.bytes
  have hr := B.returns
  have hts := atoms_spec (ws := wsL_weight) B.pre
  have htb := vx_table (x := yL_weight) B (hts _ List.mem_cons_self)
  have hown : s.vm.findClass RL = some m.cls := findClass_of_methodNamed B.named
  have hlocks := B.notSynchronized
  have hS : va_S A s.heap s.heap [] := va_S.rf
  have hl := lv_entry ([.ref (a 0), .int q, .int i, .ref o]) (n := 5) (Nat.le_of_ble_eq_true rfl)
  rw [lg_entry_eq]
  generalize (lg_sl ([.ref (a 0), .int q, .int i, .ref o]) ++ List.replicate (5 - (lg_sl ([.ref (a 0), .int q, .int i, .ref o])).length) Slot.unset).toArray = ls at hl ⊢
  have hl : lv_has ls 5 [(0, .ref (a 0)), (1, .int q), (2, .int i), (3, .ref o)] := hl
  refine lv_aload_n hx hb dL_weight_0 rfl (lv_at hl 3 rfl) ?_
  refine lv_iconst (v := 0) hx hb dL_weight_1 (by decide) ?_
  refine lv_aload_n hx hb dL_weight_2 rfl (lv_at hl 0 rfl) ?_
  refine lv_iload_n hx hb dL_weight_3 rfl (lv_at hl 1 rfl) ?_
  refine lv_iload_n hx hb dL_weight_4 rfl (lv_at hl 2 rfl) ?_
  refine kIg (xVg (As := [.int q, .int i]) (rest := [.int 0, .ref o]) ⟨hx, hb, hml, hown, hts⟩ (c_X4_weight l hnt D cI cL cM _ sa a x q i hn6) (cwV 2 hts gL_weight_X4_weight rfl rfl rfl (by decide +kernel) ⟨(Nat.le_of_ble_eq_true rfl), (Nat.le_of_ble_eq_true rfl)⟩) hEX hP hD hS hA (segI 0 35) seg35 (wrW_mxC cI cL cM a o x f) 0 rfl (wrW_0 cI cL cM a o x f) rfl hl.1 rfl (Nat.le_of_ble_eq_true rfl) dL_weight_5 ⟨(Nat.le_of_ble_eq_true rfl), (Nat.le_of_ble_eq_true rfl)⟩) hP hD hS hA (is := segI 0 35) (wrW_mxC cI cL cM a o x f) (mxW_fst cI cL cM a _ _) (fun E9 ce9 q9 H locs hth9 hP hS h91 h92 h93 => ?_) (fun H locs hok hP hD hS => ?_)
  · obtain ⟨rfl, hk9⟩ := hth9
    refine vx_catch hown [] ⟨0, 10, 13, 25⟩ [] htb (fun _ h => absurd h List.not_mem_nil) (by decide) (by decide) (hts _ (List.mem_of_getElem? (i := 1) rfl)) (xW_use hEX.2.2.2.2 _ _ (List.mem_of_getElem? (i := 5) rfl)) h91 h92 h93 ?_
    have hk0 : ¬ cdWei x q i = 0 := by rw [hk9]; decide
    refine lv_astore (lv' := [(4, .ref q9), (0, .ref (a 0)), (1, .int q), (2, .int i), (3, .ref o)]) hx hb dL_weight_13 hl (by decide) rfl (fun ls hl => ?_)
    refine lv_iconst (v := 1) hx hb dL_weight_15 (by decide) ?_
    have hw9 : (wrW cI cL cM a o x f) = (wrW cI cL cM a o (if cdWei x q i = 0 then x else x) (if cdWei x q i = 0 then vp_updL f 0 (o_we (k_mo (x_pr x) q.toNatClampNeg) i.toNatClampNeg).toInt64 else f)) := by rw [if_neg hk0, if_neg hk0]
    rw [hw9] at hP hD
    refine vx_ret ?_
    refine W.widen (k := 3) (n := 18) (Nat.le_of_ble_eq_true rfl) (Nat.le_of_ble_eq_true rfl) ?_
    exact W.iret (v := 1) hx hb hr (fun t ht hW => ⟨⟨1, (), rfl, hk9.symm, by rw [ht]; exact hP, hD⟩, hS.F ht⟩) hS.2.2 dL_weight_16
  rw [wrW_mxP] at hP hD
  refine lv_i2l hx hb dL_weight_8 rfl ?_
  refine lstN hx hb hK hP hD hS 35 1 rfl rfl 0 (by omega) ((Nat.le_of_ble_eq_true rfl)) dL_weight_9 (fun H locs hP hD hS => ?_)
  rw [wrW_set] at hP hD
  have hP : va_P D vwCl (wrW cI cL cM a o x (vp_updL f 0 ((o_we (k_mo (x_pr x) q.toNatClampNeg) i.toNatClampNeg).toInt64))) H := hP
  have hD : va_D A (wrW cI cL cM a o x (vp_updL f 0 ((o_we (k_mo (x_pr x) q.toNatClampNeg) i.toNatClampNeg).toInt64))) := hD
  refine lv_goto (tgt := 17) hx hb dL_weight_10 (by decide) ?_
  refine lv_iconst (v := 0) hx hb dL_weight_17 (by decide) ?_
  have hw9 : (wrW cI cL cM a o x (vp_updL f 0 ((o_we (k_mo (x_pr x) q.toNatClampNeg) i.toNatClampNeg).toInt64))) = (wrW cI cL cM a o (if cdWei x q i = 0 then x else x) (if cdWei x q i = 0 then vp_updL f 0 (o_we (k_mo (x_pr x) q.toNatClampNeg) i.toNatClampNeg).toInt64 else f)) := by rw [if_pos hok, if_pos hok]
  rw [hw9] at hP hD
  refine vx_ret ?_
  refine W.widen (k := 3) (n := 18) (Nat.le_of_ble_eq_true rfl) (Nat.le_of_ble_eq_true rfl) ?_
  exact W.iret (v := 0) hx hb hr (fun t ht hW => ⟨⟨0, (), rfl, hok.symm, by rw [ht]; exact hP, hD⟩, hS.F ht⟩) hS.2.2 dL_weight_18

set_option maxHeartbeats 4000000 in
set_option maxRecDepth 100000 in
theorem c_L_collisions (l : Launch) (hnt : l.stackTraces = false) (D : va_G) (cI cL cM : ClassId) (A : Nat → Prop) (sa : Nat → Nat) (a : Nat → Nat) (o : Nat) (x : Mx) (f : Nat → Int64) (q : Int32) (hn6 : k_n (x_pr x) ≤ 6) : mW l yL_collisions wsL_collisions ({ frames := 8, cells := 3, slots := 18, locals := 132 }) D (tB cI cL cM) A sa [.ref (a 0), .int q, .ref o] (wrW cI cL cM a o x f) (cdMod x q) (wrW cI cL cM a o (if cdMod x q = 0 then x else x) (if cdMod x q = 0 then vp_updL f 0 (o_cn (k_mo (x_pr x) q.toNatClampNeg)).toInt64 else f)) := by
  refine vx_ofWH (cc := cL_collisions) (maxL := 4) (ret := (some .int)) (by decide) rfl ?_
  intro p e s m args below meth c s₁ B hml hv
  obtain ⟨rfl, ⟨hP, hEX, hD, hA⟩, hN⟩ := hv
  have hE := hEX.1
  have hK := hE.1
  have hx := B.exec
  have hb := B.bytes
  have hr := B.returns
  have hts := atoms_spec (ws := wsL_collisions) B.pre
  have htb := vx_table (x := yL_collisions) B (hts _ List.mem_cons_self)
  have hown : s.vm.findClass RL = some m.cls := findClass_of_methodNamed B.named
  have hlocks := B.notSynchronized
  have hS : va_S A s.heap s.heap [] := va_S.rf
  have hl := lv_entry ([.ref (a 0), .int q, .ref o]) (n := 4) (Nat.le_of_ble_eq_true rfl)
  rw [lg_entry_eq]
  generalize (lg_sl ([.ref (a 0), .int q, .ref o]) ++ List.replicate (4 - (lg_sl ([.ref (a 0), .int q, .ref o])).length) Slot.unset).toArray = ls at hl ⊢
  have hl : lv_has ls 4 [(0, .ref (a 0)), (1, .int q), (2, .ref o)] := hl
  refine lv_aload_n hx hb dL_collisions_0 rfl (lv_at hl 2 rfl) ?_
  refine lv_iconst (v := 0) hx hb dL_collisions_1 (by decide) ?_
  refine lv_aload_n hx hb dL_collisions_2 rfl (lv_at hl 0 rfl) ?_
  refine lv_iload_n hx hb dL_collisions_3 rfl (lv_at hl 1 rfl) ?_
  refine kIg (xVg (As := [.int q]) (rest := [.int 0, .ref o]) ⟨hx, hb, hml, hown, hts⟩ (c_X4_collisions l hnt D cI cL cM _ sa a x q hn6) (cwV 1 hts gL_collisions_X4_collisions rfl rfl rfl (by decide +kernel) ⟨(Nat.le_of_ble_eq_true rfl), (Nat.le_of_ble_eq_true rfl)⟩) hEX hP hD hS hA (segI 0 35) seg35 (wrW_mxC cI cL cM a o x f) 0 rfl (wrW_0 cI cL cM a o x f) rfl hl.1 rfl (Nat.le_of_ble_eq_true rfl) dL_collisions_4 ⟨(Nat.le_of_ble_eq_true rfl), (Nat.le_of_ble_eq_true rfl)⟩) hP hD hS hA (is := segI 0 35) (wrW_mxC cI cL cM a o x f) (mxW_fst cI cL cM a _ _) (fun E9 ce9 q9 H locs hth9 hP hS h91 h92 h93 => ?_) (fun H locs hok hP hD hS => ?_)
  · obtain ⟨rfl, hk9⟩ := hth9
    refine vx_catch hown [] ⟨0, 9, 12, 25⟩ [] htb (fun _ h => absurd h List.not_mem_nil) (by decide) (by decide) (hts _ (List.mem_of_getElem? (i := 1) rfl)) (xW_use hEX.2.2.2.2 _ _ (List.mem_of_getElem? (i := 5) rfl)) h91 h92 h93 ?_
    have hk0 : ¬ cdMod x q = 0 := by rw [hk9]; decide
    refine lv_astore_n (lv' := [(3, .ref q9), (0, .ref (a 0)), (1, .int q), (2, .ref o)]) hx hb dL_collisions_12 rfl hl (by decide) rfl (fun ls hl => ?_)
    refine lv_iconst (v := 1) hx hb dL_collisions_13 (by decide) ?_
    have hw9 : (wrW cI cL cM a o x f) = (wrW cI cL cM a o (if cdMod x q = 0 then x else x) (if cdMod x q = 0 then vp_updL f 0 (o_cn (k_mo (x_pr x) q.toNatClampNeg)).toInt64 else f)) := by rw [if_neg hk0, if_neg hk0]
    rw [hw9] at hP hD
    refine vx_ret ?_
    refine W.widen (k := 3) (n := 18) (Nat.le_of_ble_eq_true rfl) (Nat.le_of_ble_eq_true rfl) ?_
    exact W.iret (v := 1) hx hb hr (fun t ht hW => ⟨⟨1, (), rfl, hk9.symm, by rw [ht]; exact hP, hD⟩, hS.F ht⟩) hS.2.2 dL_collisions_14
  rw [wrW_mxP] at hP hD
  refine lv_i2l hx hb dL_collisions_7 rfl ?_
  refine lstN hx hb hK hP hD hS 35 1 rfl rfl 0 (by omega) ((Nat.le_of_ble_eq_true rfl)) dL_collisions_8 (fun H locs hP hD hS => ?_)
  rw [wrW_set] at hP hD
  have hP : va_P D vwCl (wrW cI cL cM a o x (vp_updL f 0 ((o_cn (k_mo (x_pr x) q.toNatClampNeg)).toInt64))) H := hP
  have hD : va_D A (wrW cI cL cM a o x (vp_updL f 0 ((o_cn (k_mo (x_pr x) q.toNatClampNeg)).toInt64))) := hD
  refine lv_goto (tgt := 15) hx hb dL_collisions_9 (by decide) ?_
  refine lv_iconst (v := 0) hx hb dL_collisions_15 (by decide) ?_
  have hw9 : (wrW cI cL cM a o x (vp_updL f 0 ((o_cn (k_mo (x_pr x) q.toNatClampNeg)).toInt64))) = (wrW cI cL cM a o (if cdMod x q = 0 then x else x) (if cdMod x q = 0 then vp_updL f 0 (o_cn (k_mo (x_pr x) q.toNatClampNeg)).toInt64 else f)) := by rw [if_pos hok, if_pos hok]
  rw [hw9] at hP hD
  refine vx_ret ?_
  refine W.widen (k := 3) (n := 18) (Nat.le_of_ble_eq_true rfl) (Nat.le_of_ble_eq_true rfl) ?_
  exact W.iret (v := 0) hx hb hr (fun t ht hW => ⟨⟨0, (), rfl, hok.symm, by rw [ht]; exact hP, hD⟩, hS.F ht⟩) hS.2.2 dL_collisions_16

set_option maxHeartbeats 4000000 in
set_option maxRecDepth 100000 in
theorem c_L_history (l : Launch) (hnt : l.stackTraces = false) (D : va_G) (cI cL cM : ClassId) (A : Nat → Prop) (sa : Nat → Nat) (a : Nat → Nat) (o : Nat) (x : Mx) (f : Nat → Int64) (q : Int32) : mW l yL_history wsL_history ({ frames := 7, cells := 3, slots := 18, locals := 111 }) D (tB cI cL cM) A sa [.ref (a 0), .int q, .ref o] (wrW cI cL cM a o x f) (cdHis q) (wrW cI cL cM a o (if cdHis q = 0 then x else x) (if cdHis q = 0 then vp_updL f 0 (k_la (x_pr x) q.toNatClampNeg).toInt64 else f)) := by
  refine vx_ofWH (cc := cL_history) (maxL := 4) (ret := (some .int)) (by decide) rfl ?_
  intro p e s m args below meth c s₁ B hml hv
  obtain ⟨rfl, ⟨hP, hEX, hD, hA⟩, hN⟩ := hv
  have hE := hEX.1
  have hK := hE.1
  have hx := B.exec
  have hb := B.bytes
  have hr := B.returns
  have hts := atoms_spec (ws := wsL_history) B.pre
  have htb := vx_table (x := yL_history) B (hts _ List.mem_cons_self)
  have hown : s.vm.findClass RL = some m.cls := findClass_of_methodNamed B.named
  have hlocks := B.notSynchronized
  have hS : va_S A s.heap s.heap [] := va_S.rf
  have hl := lv_entry ([.ref (a 0), .int q, .ref o]) (n := 4) (Nat.le_of_ble_eq_true rfl)
  rw [lg_entry_eq]
  generalize (lg_sl ([.ref (a 0), .int q, .ref o]) ++ List.replicate (4 - (lg_sl ([.ref (a 0), .int q, .ref o])).length) Slot.unset).toArray = ls at hl ⊢
  have hl : lv_has ls 4 [(0, .ref (a 0)), (1, .int q), (2, .ref o)] := hl
  refine lv_aload_n hx hb dL_history_0 rfl (lv_at hl 2 rfl) ?_
  refine lv_iconst (v := 0) hx hb dL_history_1 (by decide) ?_
  refine lv_aload_n hx hb dL_history_2 rfl (lv_at hl 0 rfl) ?_
  refine lv_iload_n hx hb dL_history_3 rfl (lv_at hl 1 rfl) ?_
  refine kIg (xVg (As := [.int q]) (rest := [.int 0, .ref o]) ⟨hx, hb, hml, hown, hts⟩ (c_X4_history l hnt D cI cL cM _ sa a x q) (cwV 1 hts gL_history_X4_history rfl rfl rfl (by decide +kernel) ⟨(Nat.le_of_ble_eq_true rfl), (Nat.le_of_ble_eq_true rfl)⟩) hEX hP hD hS hA (segI 0 35) seg35 (wrW_mxC cI cL cM a o x f) 0 rfl (wrW_0 cI cL cM a o x f) rfl hl.1 rfl (Nat.le_of_ble_eq_true rfl) dL_history_4 ⟨(Nat.le_of_ble_eq_true rfl), (Nat.le_of_ble_eq_true rfl)⟩) hP hD hS hA (is := segI 0 35) (wrW_mxC cI cL cM a o x f) (mxW_fst cI cL cM a _ _) (fun E9 ce9 q9 H locs hth9 hP hS h91 h92 h93 => ?_) (fun H locs hok hP hD hS => ?_)
  · obtain ⟨rfl, hk9⟩ := hth9
    refine vx_catch hown [] ⟨0, 9, 12, 25⟩ [] htb (fun _ h => absurd h List.not_mem_nil) (by decide) (by decide) (hts _ (List.mem_of_getElem? (i := 1) rfl)) (xW_use hEX.2.2.2.2 _ _ (List.mem_of_getElem? (i := 5) rfl)) h91 h92 h93 ?_
    have hk0 : ¬ cdHis q = 0 := by rw [hk9]; decide
    refine lv_astore_n (lv' := [(3, .ref q9), (0, .ref (a 0)), (1, .int q), (2, .ref o)]) hx hb dL_history_12 rfl hl (by decide) rfl (fun ls hl => ?_)
    refine lv_iconst (v := 1) hx hb dL_history_13 (by decide) ?_
    have hw9 : (wrW cI cL cM a o x f) = (wrW cI cL cM a o (if cdHis q = 0 then x else x) (if cdHis q = 0 then vp_updL f 0 (k_la (x_pr x) q.toNatClampNeg).toInt64 else f)) := by rw [if_neg hk0, if_neg hk0]
    rw [hw9] at hP hD
    refine vx_ret ?_
    refine W.widen (k := 3) (n := 18) (Nat.le_of_ble_eq_true rfl) (Nat.le_of_ble_eq_true rfl) ?_
    exact W.iret (v := 1) hx hb hr (fun t ht hW => ⟨⟨1, (), rfl, hk9.symm, by rw [ht]; exact hP, hD⟩, hS.F ht⟩) hS.2.2 dL_history_14
  rw [wrW_mxP] at hP hD
  refine lv_i2l hx hb dL_history_7 rfl ?_
  refine lstN hx hb hK hP hD hS 35 1 rfl rfl 0 (by omega) ((Nat.le_of_ble_eq_true rfl)) dL_history_8 (fun H locs hP hD hS => ?_)
  rw [wrW_set] at hP hD
  have hP : va_P D vwCl (wrW cI cL cM a o x (vp_updL f 0 ((k_la (x_pr x) q.toNatClampNeg).toInt64))) H := hP
  have hD : va_D A (wrW cI cL cM a o x (vp_updL f 0 ((k_la (x_pr x) q.toNatClampNeg).toInt64))) := hD
  refine lv_goto (tgt := 15) hx hb dL_history_9 (by decide) ?_
  refine lv_iconst (v := 0) hx hb dL_history_15 (by decide) ?_
  have hw9 : (wrW cI cL cM a o x (vp_updL f 0 ((k_la (x_pr x) q.toNatClampNeg).toInt64))) = (wrW cI cL cM a o (if cdHis q = 0 then x else x) (if cdHis q = 0 then vp_updL f 0 (k_la (x_pr x) q.toNatClampNeg).toInt64 else f)) := by rw [if_pos hok, if_pos hok]
  rw [hw9] at hP hD
  refine vx_ret ?_
  refine W.widen (k := 3) (n := 18) (Nat.le_of_ble_eq_true rfl) (Nat.le_of_ble_eq_true rfl) ?_
  exact W.iret (v := 0) hx hb hr (fun t ht hW => ⟨⟨0, (), rfl, hok.symm, by rw [ht]; exact hP, hD⟩, hS.F ht⟩) hS.2.2 dL_history_16

set_option maxHeartbeats 4000000 in
set_option maxRecDepth 100000 in
theorem c_L_code (l : Launch) (hnt : l.stackTraces = false) (D : va_G) (cI cL cM : ClassId) (A : Nat → Prop) (sa : Nat → Nat) (a : Nat → Nat) (o : Nat) (x : Mx) (f : Nat → Int64) (q : Int32) (hec : q_c (x_en x) ≤ 2564) : mW l yL_code wsL_code ({ frames := 8, cells := 3, slots := 18, locals := 132 }) D (tB cI cL cM) A sa [.ref (a 0), .int q, .ref o] (wrW cI cL cM a o x f) (cdPlc (x_en x) q) (wrW cI cL cM a o (if cdPlc (x_en x) q = 0 then x else x) (if cdPlc (x_en x) q = 0 then vp_updL f 0 (q_at (x_en x) q).toInt64 else f)) := by
  refine vx_ofWH (cc := cL_code) (maxL := 4) (ret := (some .int)) (by decide) rfl ?_
  intro p e s m args below meth c s₁ B hml hv
  obtain ⟨rfl, ⟨hP, hEX, hD, hA⟩, hN⟩ := hv
  have hE := hEX.1
  have hK := hE.1
  have hx := B.exec
  have hb := B.bytes
  have hr := B.returns
  have hts := atoms_spec (ws := wsL_code) B.pre
  have htb := vx_table (x := yL_code) B (hts _ List.mem_cons_self)
  have hown : s.vm.findClass RL = some m.cls := findClass_of_methodNamed B.named
  have hlocks := B.notSynchronized
  have hS : va_S A s.heap s.heap [] := va_S.rf
  have hl := lv_entry ([.ref (a 0), .int q, .ref o]) (n := 4) (Nat.le_of_ble_eq_true rfl)
  rw [lg_entry_eq]
  generalize (lg_sl ([.ref (a 0), .int q, .ref o]) ++ List.replicate (4 - (lg_sl ([.ref (a 0), .int q, .ref o])).length) Slot.unset).toArray = ls at hl ⊢
  have hl : lv_has ls 4 [(0, .ref (a 0)), (1, .int q), (2, .ref o)] := hl
  refine lv_aload_n hx hb dL_code_0 rfl (lv_at hl 2 rfl) ?_
  refine lv_iconst (v := 0) hx hb dL_code_1 (by decide) ?_
  refine lv_aload_n hx hb dL_code_2 rfl (lv_at hl 0 rfl) ?_
  refine lv_iload_n hx hb dL_code_3 rfl (lv_at hl 1 rfl) ?_
  refine kIg (xVg (As := [.int q]) (rest := [.int 0, .ref o]) ⟨hx, hb, hml, hown, hts⟩ (c_X4_code l hnt D cI cL cM _ sa a x q hec) (cwV 1 hts gL_code_X4_code rfl rfl rfl (by decide +kernel) ⟨(Nat.le_of_ble_eq_true rfl), (Nat.le_of_ble_eq_true rfl)⟩) hEX hP hD hS hA (segI 0 35) seg35 (wrW_mxC cI cL cM a o x f) 0 rfl (wrW_0 cI cL cM a o x f) rfl hl.1 rfl (Nat.le_of_ble_eq_true rfl) dL_code_4 ⟨(Nat.le_of_ble_eq_true rfl), (Nat.le_of_ble_eq_true rfl)⟩) hP hD hS hA (is := segI 0 35) (wrW_mxC cI cL cM a o x f) (mxW_fst cI cL cM a _ _) (fun E9 ce9 q9 H locs hth9 hP hS h91 h92 h93 => ?_) (fun H locs hok hP hD hS => ?_)
  · obtain ⟨rfl, hk9⟩ := hth9
    refine vx_catch hown [] ⟨0, 9, 12, 25⟩ [] htb (fun _ h => absurd h List.not_mem_nil) (by decide) (by decide) (hts _ (List.mem_of_getElem? (i := 1) rfl)) (xW_use hEX.2.2.2.2 _ _ (List.mem_of_getElem? (i := 5) rfl)) h91 h92 h93 ?_
    have hk0 : ¬ cdPlc (x_en x) q = 0 := by rw [hk9]; decide
    refine lv_astore_n (lv' := [(3, .ref q9), (0, .ref (a 0)), (1, .int q), (2, .ref o)]) hx hb dL_code_12 rfl hl (by decide) rfl (fun ls hl => ?_)
    refine lv_iconst (v := 1) hx hb dL_code_13 (by decide) ?_
    have hw9 : (wrW cI cL cM a o x f) = (wrW cI cL cM a o (if cdPlc (x_en x) q = 0 then x else x) (if cdPlc (x_en x) q = 0 then vp_updL f 0 (q_at (x_en x) q).toInt64 else f)) := by rw [if_neg hk0, if_neg hk0]
    rw [hw9] at hP hD
    refine vx_ret ?_
    refine W.widen (k := 3) (n := 18) (Nat.le_of_ble_eq_true rfl) (Nat.le_of_ble_eq_true rfl) ?_
    exact W.iret (v := 1) hx hb hr (fun t ht hW => ⟨⟨1, (), rfl, hk9.symm, by rw [ht]; exact hP, hD⟩, hS.F ht⟩) hS.2.2 dL_code_14
  rw [wrW_mxP] at hP hD
  refine lv_i2l hx hb dL_code_7 rfl ?_
  refine lstN hx hb hK hP hD hS 35 1 rfl rfl 0 (by omega) ((Nat.le_of_ble_eq_true rfl)) dL_code_8 (fun H locs hP hD hS => ?_)
  rw [wrW_set] at hP hD
  have hP : va_P D vwCl (wrW cI cL cM a o x (vp_updL f 0 ((q_at (x_en x) q).toInt64))) H := hP
  have hD : va_D A (wrW cI cL cM a o x (vp_updL f 0 ((q_at (x_en x) q).toInt64))) := hD
  refine lv_goto (tgt := 15) hx hb dL_code_9 (by decide) ?_
  refine lv_iconst (v := 0) hx hb dL_code_15 (by decide) ?_
  have hw9 : (wrW cI cL cM a o x (vp_updL f 0 ((q_at (x_en x) q).toInt64))) = (wrW cI cL cM a o (if cdPlc (x_en x) q = 0 then x else x) (if cdPlc (x_en x) q = 0 then vp_updL f 0 (q_at (x_en x) q).toInt64 else f)) := by rw [if_pos hok, if_pos hok]
  rw [hw9] at hP hD
  refine vx_ret ?_
  refine W.widen (k := 3) (n := 18) (Nat.le_of_ble_eq_true rfl) (Nat.le_of_ble_eq_true rfl) ?_
  exact W.iret (v := 0) hx hb hr (fun t ht hW => ⟨⟨0, (), rfl, hok.symm, by rw [ht]; exact hP, hD⟩, hS.F ht⟩) hS.2.2 dL_code_16

set_option maxHeartbeats 4000000 in
set_option maxRecDepth 100000 in
theorem c_L_setCode (l : Launch) (hnt : l.stackTraces = false) (D : va_G) (cI cL cM : ClassId) (A : Nat → Prop) (sa : Nat → Nat) (a : Nat → Nat) (o : Nat) (x : Mx) (f : Nat → Int64) (q v : Int32) (hec : q_c (x_en x) ≤ 2564) : mW l yL_setCode wsL_setCode ({ frames := 8, cells := 3, slots := 18, locals := 134 }) D (tB cI cL cM) A sa [.ref (a 0), .int q, .int v, .ref o] (wrW cI cL cM a o x f) (cdSet (x_en x) q v) (wrW cI cL cM a o (if cdSet (x_en x) q v = 0 then (xs_en x (q_put (x_en x) q v)) else x) (if cdSet (x_en x) q v = 0 then vp_updL f 0 (q_at (x_en x) q).toInt64 else f)) := by
  refine vx_ofWH (cc := cL_setCode) (maxL := 5) (ret := (some .int)) (by decide) rfl ?_
  intro p e s m args below meth c s₁ B hml hv
  obtain ⟨rfl, ⟨hP, hEX, hD, hA⟩, hN⟩ := hv
  have hE := hEX.1
  have hK := hE.1
  have hx := B.exec
  have hb := B.bytes
  have hr := B.returns
  have hts := atoms_spec (ws := wsL_setCode) B.pre
  have htb := vx_table (x := yL_setCode) B (hts _ List.mem_cons_self)
  have hown : s.vm.findClass RL = some m.cls := findClass_of_methodNamed B.named
  have hlocks := B.notSynchronized
  have hS : va_S A s.heap s.heap [] := va_S.rf
  have hl := lv_entry ([.ref (a 0), .int q, .int v, .ref o]) (n := 5) (Nat.le_of_ble_eq_true rfl)
  rw [lg_entry_eq]
  generalize (lg_sl ([.ref (a 0), .int q, .int v, .ref o]) ++ List.replicate (5 - (lg_sl ([.ref (a 0), .int q, .int v, .ref o])).length) Slot.unset).toArray = ls at hl ⊢
  have hl : lv_has ls 5 [(0, .ref (a 0)), (1, .int q), (2, .int v), (3, .ref o)] := hl
  refine lv_aload_n hx hb dL_setCode_0 rfl (lv_at hl 3 rfl) ?_
  refine lv_iconst (v := 0) hx hb dL_setCode_1 (by decide) ?_
  refine lv_aload_n hx hb dL_setCode_2 rfl (lv_at hl 0 rfl) ?_
  refine lv_iload_n hx hb dL_setCode_3 rfl (lv_at hl 1 rfl) ?_
  refine lv_iload_n hx hb dL_setCode_4 rfl (lv_at hl 2 rfl) ?_
  refine kIg (xVg (As := [.int q, .int v]) (rest := [.int 0, .ref o]) ⟨hx, hb, hml, hown, hts⟩ (c_X4_setCode l hnt D cI cL cM _ sa a x q v hec) (cwV 2 hts gL_setCode_X4_setCode rfl rfl rfl (by decide +kernel) ⟨(Nat.le_of_ble_eq_true rfl), (Nat.le_of_ble_eq_true rfl)⟩) hEX hP hD hS hA (segI 0 35) seg35 (wrW_mxC cI cL cM a o x f) 0 rfl (wrW_0 cI cL cM a o x f) rfl hl.1 rfl (Nat.le_of_ble_eq_true rfl) dL_setCode_5 ⟨(Nat.le_of_ble_eq_true rfl), (Nat.le_of_ble_eq_true rfl)⟩) hP hD hS hA (is := segI 0 35) (wrW_mxC cI cL cM a o x f) (mxW_fst cI cL cM a _ _) (fun E9 ce9 q9 H locs hth9 hP hS h91 h92 h93 => ?_) (fun H locs hok hP hD hS => ?_)
  · rcases hth9 with ⟨rfl, hk9⟩ | ⟨rfl, hk9⟩
    · refine vx_catch hown [] ⟨0, 10, 13, 25⟩ [⟨0, 10, 17, 13⟩] htb (fun _ h => absurd h List.not_mem_nil) (by decide) (by decide) (hts _ (List.mem_of_getElem? (i := 1) rfl)) (xW_use hEX.2.2.2.2 _ _ (List.mem_of_getElem? (i := 5) rfl)) h91 h92 h93 ?_
      have hk0 : ¬ cdSet (x_en x) q v = 0 := by rw [hk9]; decide
      refine lv_astore (lv' := [(4, .ref q9), (0, .ref (a 0)), (1, .int q), (2, .int v), (3, .ref o)]) hx hb dL_setCode_13 hl (by decide) rfl (fun ls hl => ?_)
      refine lv_iconst (v := 1) hx hb dL_setCode_15 (by decide) ?_
      have hw9 : (wrW cI cL cM a o x f) = (wrW cI cL cM a o (if cdSet (x_en x) q v = 0 then (xs_en x (q_put (x_en x) q v)) else x) (if cdSet (x_en x) q v = 0 then vp_updL f 0 (q_at (x_en x) q).toInt64 else f)) := by rw [if_neg hk0, if_neg hk0]
      rw [hw9] at hP hD
      refine vx_ret ?_
      refine W.widen (k := 3) (n := 18) (Nat.le_of_ble_eq_true rfl) (Nat.le_of_ble_eq_true rfl) ?_
      exact W.iret (v := 1) hx hb hr (fun t ht hW => ⟨⟨1, (), rfl, hk9.symm, by rw [ht]; exact hP, hD⟩, hS.F ht⟩) hS.2.2 dL_setCode_16
    · refine vx_catch hown [⟨0, 10, 13, 25⟩] ⟨0, 10, 17, 13⟩ [] htb (List.forall_mem_cons.mpr ⟨Or.inr ⟨by decide, _, (hts _ (List.mem_of_getElem? (i := 1) rfl)), hN.2⟩, fun _ h => absurd h List.not_mem_nil⟩) (by decide) (by decide) (hts _ (List.mem_of_getElem? (i := 2) rfl)) (xW_use hEX.2.2.2.2 _ _ (List.mem_of_getElem? (i := 3) rfl)) h91 h92 h93 ?_
      have hk0 : ¬ cdSet (x_en x) q v = 0 := by rw [hk9]; decide
      refine lv_astore (lv' := [(4, .ref q9), (0, .ref (a 0)), (1, .int q), (2, .int v), (3, .ref o)]) hx hb dL_setCode_17 hl (by decide) rfl (fun ls hl => ?_)
      refine lv_iconst (v := 2) hx hb dL_setCode_19 (by decide) ?_
      have hw9 : (wrW cI cL cM a o x f) = (wrW cI cL cM a o (if cdSet (x_en x) q v = 0 then (xs_en x (q_put (x_en x) q v)) else x) (if cdSet (x_en x) q v = 0 then vp_updL f 0 (q_at (x_en x) q).toInt64 else f)) := by rw [if_neg hk0, if_neg hk0]
      rw [hw9] at hP hD
      refine vx_ret ?_
      refine W.widen (k := 3) (n := 18) (Nat.le_of_ble_eq_true rfl) (Nat.le_of_ble_eq_true rfl) ?_
      exact W.iret (v := 2) hx hb hr (fun t ht hW => ⟨⟨2, (), rfl, hk9.symm, by rw [ht]; exact hP, hD⟩, hS.F ht⟩) hS.2.2 dL_setCode_20
  rw [wrW_mxP] at hP hD
  refine lv_i2l hx hb dL_setCode_8 rfl ?_
  refine lstN hx hb hK hP hD hS 35 1 rfl rfl 0 (by omega) ((Nat.le_of_ble_eq_true rfl)) dL_setCode_9 (fun H locs hP hD hS => ?_)
  rw [wrW_set] at hP hD
  have hP : va_P D vwCl (wrW cI cL cM a o (xs_en x (q_put (x_en x) q v)) (vp_updL f 0 ((q_at (x_en x) q).toInt64))) H := hP
  have hD : va_D A (wrW cI cL cM a o (xs_en x (q_put (x_en x) q v)) (vp_updL f 0 ((q_at (x_en x) q).toInt64))) := hD
  refine lv_goto (tgt := 21) hx hb dL_setCode_10 (by decide) ?_
  refine lv_iconst (v := 0) hx hb dL_setCode_21 (by decide) ?_
  have hw9 : (wrW cI cL cM a o (xs_en x (q_put (x_en x) q v)) (vp_updL f 0 ((q_at (x_en x) q).toInt64))) = (wrW cI cL cM a o (if cdSet (x_en x) q v = 0 then (xs_en x (q_put (x_en x) q v)) else x) (if cdSet (x_en x) q v = 0 then vp_updL f 0 (q_at (x_en x) q).toInt64 else f)) := by rw [if_pos hok, if_pos hok]
  rw [hw9] at hP hD
  refine vx_ret ?_
  refine W.widen (k := 3) (n := 18) (Nat.le_of_ble_eq_true rfl) (Nat.le_of_ble_eq_true rfl) ?_
  exact W.iret (v := 0) hx hb hr (fun t ht hW => ⟨⟨0, (), rfl, hok.symm, by rw [ht]; exact hP, hD⟩, hS.F ht⟩) hS.2.2 dL_setCode_22

set_option maxHeartbeats 4000000 in
set_option maxRecDepth 100000 in
theorem c_L_cutCode (l : Launch) (hnt : l.stackTraces = false) (D : va_G) (cI cL cM : ClassId) (A : Nat → Prop) (sa : Nat → Nat) (a : Nat → Nat) (o : Nat) (x : Mx) (f : Nat → Int64) (q : Int32) (hec : q_c (x_en x) ≤ 2564) : mW l yL_cutCode wsL_cutCode ({ frames := 8, cells := 3, slots := 18, locals := 132 }) D (tB cI cL cM) A sa [.ref (a 0), .int q, .ref o] (wrW cI cL cM a o x f) (cdCut (x_en x) q) (wrW cI cL cM a o (if cdCut (x_en x) q = 0 then (xs_en x (qs_c (x_en x) (q_c (x_en x) - q.toNatClampNeg))) else x) (if cdCut (x_en x) q = 0 then vp_updL f 0 (nI (q_c (x_en x) - q.toNatClampNeg)).toInt64 else f)) := by
  refine vx_ofWH (cc := cL_cutCode) (maxL := 4) (ret := (some .int)) (by decide) rfl ?_
  intro p e s m args below meth c s₁ B hml hv
  obtain ⟨rfl, ⟨hP, hEX, hD, hA⟩, hN⟩ := hv
  have hE := hEX.1
  have hK := hE.1
  have hx := B.exec
  have hb := B.bytes
  have hr := B.returns
  have hts := atoms_spec (ws := wsL_cutCode) B.pre
  have htb := vx_table (x := yL_cutCode) B (hts _ List.mem_cons_self)
  have hown : s.vm.findClass RL = some m.cls := findClass_of_methodNamed B.named
  have hlocks := B.notSynchronized
  have hS : va_S A s.heap s.heap [] := va_S.rf
  have hl := lv_entry ([.ref (a 0), .int q, .ref o]) (n := 4) (Nat.le_of_ble_eq_true rfl)
  rw [lg_entry_eq]
  generalize (lg_sl ([.ref (a 0), .int q, .ref o]) ++ List.replicate (4 - (lg_sl ([.ref (a 0), .int q, .ref o])).length) Slot.unset).toArray = ls at hl ⊢
  have hl : lv_has ls 4 [(0, .ref (a 0)), (1, .int q), (2, .ref o)] := hl
  refine lv_aload_n hx hb dL_cutCode_0 rfl (lv_at hl 2 rfl) ?_
  refine lv_iconst (v := 0) hx hb dL_cutCode_1 (by decide) ?_
  refine lv_aload_n hx hb dL_cutCode_2 rfl (lv_at hl 0 rfl) ?_
  refine lv_iload_n hx hb dL_cutCode_3 rfl (lv_at hl 1 rfl) ?_
  refine kIg (xVg (As := [.int q]) (rest := [.int 0, .ref o]) ⟨hx, hb, hml, hown, hts⟩ (c_X4_cutCode l hnt D cI cL cM _ sa a x q hec) (cwV 1 hts gL_cutCode_X4_cutCode rfl rfl rfl (by decide +kernel) ⟨(Nat.le_of_ble_eq_true rfl), (Nat.le_of_ble_eq_true rfl)⟩) hEX hP hD hS hA (segI 0 35) seg35 (wrW_mxC cI cL cM a o x f) 0 rfl (wrW_0 cI cL cM a o x f) rfl hl.1 rfl (Nat.le_of_ble_eq_true rfl) dL_cutCode_4 ⟨(Nat.le_of_ble_eq_true rfl), (Nat.le_of_ble_eq_true rfl)⟩) hP hD hS hA (is := segI 0 35) (wrW_mxC cI cL cM a o x f) (mxW_fst cI cL cM a _ _) (fun E9 ce9 q9 H locs hth9 hP hS h91 h92 h93 => ?_) (fun H locs hok hP hD hS => ?_)
  · obtain ⟨rfl, hk9⟩ := hth9
    refine vx_catch hown [] ⟨0, 9, 12, 13⟩ [] htb (fun _ h => absurd h List.not_mem_nil) (by decide) (by decide) (hts _ (List.mem_of_getElem? (i := 1) rfl)) (xW_use hEX.2.2.2.2 _ _ (List.mem_of_getElem? (i := 3) rfl)) h91 h92 h93 ?_
    have hk0 : ¬ cdCut (x_en x) q = 0 := by rw [hk9]; decide
    refine lv_astore_n (lv' := [(3, .ref q9), (0, .ref (a 0)), (1, .int q), (2, .ref o)]) hx hb dL_cutCode_12 rfl hl (by decide) rfl (fun ls hl => ?_)
    refine lv_iconst (v := 1) hx hb dL_cutCode_13 (by decide) ?_
    have hw9 : (wrW cI cL cM a o x f) = (wrW cI cL cM a o (if cdCut (x_en x) q = 0 then (xs_en x (qs_c (x_en x) (q_c (x_en x) - q.toNatClampNeg))) else x) (if cdCut (x_en x) q = 0 then vp_updL f 0 (nI (q_c (x_en x) - q.toNatClampNeg)).toInt64 else f)) := by rw [if_neg hk0, if_neg hk0]
    rw [hw9] at hP hD
    refine vx_ret ?_
    refine W.widen (k := 3) (n := 18) (Nat.le_of_ble_eq_true rfl) (Nat.le_of_ble_eq_true rfl) ?_
    exact W.iret (v := 1) hx hb hr (fun t ht hW => ⟨⟨1, (), rfl, hk9.symm, by rw [ht]; exact hP, hD⟩, hS.F ht⟩) hS.2.2 dL_cutCode_14
  rw [wrW_mxP] at hP hD
  refine lv_i2l hx hb dL_cutCode_7 rfl ?_
  refine lstN hx hb hK hP hD hS 35 1 rfl rfl 0 (by omega) ((Nat.le_of_ble_eq_true rfl)) dL_cutCode_8 (fun H locs hP hD hS => ?_)
  rw [wrW_set] at hP hD
  have hP : va_P D vwCl (wrW cI cL cM a o (xs_en x (qs_c (x_en x) (q_c (x_en x) - q.toNatClampNeg))) (vp_updL f 0 ((nI (q_c (x_en x) - q.toNatClampNeg)).toInt64))) H := hP
  have hD : va_D A (wrW cI cL cM a o (xs_en x (qs_c (x_en x) (q_c (x_en x) - q.toNatClampNeg))) (vp_updL f 0 ((nI (q_c (x_en x) - q.toNatClampNeg)).toInt64))) := hD
  refine lv_goto (tgt := 15) hx hb dL_cutCode_9 (by decide) ?_
  refine lv_iconst (v := 0) hx hb dL_cutCode_15 (by decide) ?_
  have hw9 : (wrW cI cL cM a o (xs_en x (qs_c (x_en x) (q_c (x_en x) - q.toNatClampNeg))) (vp_updL f 0 ((nI (q_c (x_en x) - q.toNatClampNeg)).toInt64))) = (wrW cI cL cM a o (if cdCut (x_en x) q = 0 then (xs_en x (qs_c (x_en x) (q_c (x_en x) - q.toNatClampNeg))) else x) (if cdCut (x_en x) q = 0 then vp_updL f 0 (nI (q_c (x_en x) - q.toNatClampNeg)).toInt64 else f)) := by rw [if_pos hok, if_pos hok]
  rw [hw9] at hP hD
  refine vx_ret ?_
  refine W.widen (k := 3) (n := 18) (Nat.le_of_ble_eq_true rfl) (Nat.le_of_ble_eq_true rfl) ?_
  exact W.iret (v := 0) hx hb hr (fun t ht hW => ⟨⟨0, (), rfl, hok.symm, by rw [ht]; exact hP, hD⟩, hS.F ht⟩) hS.2.2 dL_cutCode_16

set_option maxHeartbeats 4000000 in
set_option maxRecDepth 100000 in
theorem c_L_decode (l : Launch) (hnt : l.stackTraces = false) (D : va_G) (cI cL cM : ClassId) (A : Nat → Prop) (sa : Nat → Nat) (a : Nat → Nat) (o : Nat) (x : Mx) (f : Nat → Int64) (q : Int32) (J : Pr → Prop) (hJ : JInv J) (hJ0 : J (k_rs (x_pr x))) (hn6 : k_n (x_pr x) ≤ 6) (htc : q_c (x_tx x) ≤ 80) (hec : q_c (x_en x) ≤ 2564) : mW l yL_decode wsL_decode ({ frames := 7, cells := 3, slots := 18, locals := 159 }) D (tB cI cL cM) A sa [.ref (a 0), .int q, .ref o] (wrW cI cL cM a o x f) (cdDec q) (wrW cI cL cM a o (if cdDec q = 0 then (x_dec x q) else x) (if cdDec q = 0 then vp_updL f 0 (dfX (x_dec x q) (max (q_c (x_tx (x_dec x q))) (q_c (x_de (x_dec x q))))).toInt64 else f)) := by
  refine vx_ofWH (cc := cL_decode) (maxL := 4) (ret := (some .int)) (by decide) rfl ?_
  intro p e s m args below meth c s₁ B hml hv
  obtain ⟨rfl, ⟨hP, hEX, hD, hA⟩, hN⟩ := hv
  have hE := hEX.1
  have hK := hE.1
  have hx := B.exec
  have hb := B.bytes
  have hr := B.returns
  have hts := atoms_spec (ws := wsL_decode) B.pre
  have htb := vx_table (x := yL_decode) B (hts _ List.mem_cons_self)
  have hown : s.vm.findClass RL = some m.cls := findClass_of_methodNamed B.named
  have hlocks := B.notSynchronized
  have hS : va_S A s.heap s.heap [] := va_S.rf
  have hl := lv_entry ([.ref (a 0), .int q, .ref o]) (n := 4) (Nat.le_of_ble_eq_true rfl)
  rw [lg_entry_eq]
  generalize (lg_sl ([.ref (a 0), .int q, .ref o]) ++ List.replicate (4 - (lg_sl ([.ref (a 0), .int q, .ref o])).length) Slot.unset).toArray = ls at hl ⊢
  have hl : lv_has ls 4 [(0, .ref (a 0)), (1, .int q), (2, .ref o)] := hl
  refine lv_aload_n hx hb dL_decode_0 rfl (lv_at hl 2 rfl) ?_
  refine lv_iconst (v := 0) hx hb dL_decode_1 (by decide) ?_
  refine lv_aload_n hx hb dL_decode_2 rfl (lv_at hl 0 rfl) ?_
  refine lv_iload_n hx hb dL_decode_3 rfl (lv_at hl 1 rfl) ?_
  refine kIg (xVg (As := [.int q]) (rest := [.int 0, .ref o]) ⟨hx, hb, hml, hown, hts⟩ (c_X4_decode l hnt D cI cL cM _ sa a x q J hJ hJ0 hn6 htc hec) (cwV 1 hts gL_decode_X4_decode rfl rfl rfl (by decide +kernel) ⟨(Nat.le_of_ble_eq_true rfl), (Nat.le_of_ble_eq_true rfl)⟩) hEX hP hD hS hA (segI 0 35) seg35 (wrW_mxC cI cL cM a o x f) 0 rfl (wrW_0 cI cL cM a o x f) rfl hl.1 rfl (Nat.le_of_ble_eq_true rfl) dL_decode_4 ⟨(Nat.le_of_ble_eq_true rfl), (Nat.le_of_ble_eq_true rfl)⟩) hP hD hS hA (is := segI 0 35) (wrW_mxC cI cL cM a o x f) (mxW_fst cI cL cM a _ _) (fun E9 ce9 q9 H locs hth9 hP hS h91 h92 h93 => ?_) (fun H locs hok hP hD hS => ?_)
  · obtain ⟨rfl, hk9⟩ := hth9
    refine vx_catch hown [] ⟨0, 9, 12, 13⟩ [] htb (fun _ h => absurd h List.not_mem_nil) (by decide) (by decide) (hts _ (List.mem_of_getElem? (i := 1) rfl)) (xW_use hEX.2.2.2.2 _ _ (List.mem_of_getElem? (i := 3) rfl)) h91 h92 h93 ?_
    have hk0 : ¬ cdDec q = 0 := by rw [hk9]; decide
    refine lv_astore_n (lv' := [(3, .ref q9), (0, .ref (a 0)), (1, .int q), (2, .ref o)]) hx hb dL_decode_12 rfl hl (by decide) rfl (fun ls hl => ?_)
    refine lv_iconst (v := 1) hx hb dL_decode_13 (by decide) ?_
    have hw9 : (wrW cI cL cM a o x f) = (wrW cI cL cM a o (if cdDec q = 0 then (x_dec x q) else x) (if cdDec q = 0 then vp_updL f 0 (dfX (x_dec x q) (max (q_c (x_tx (x_dec x q))) (q_c (x_de (x_dec x q))))).toInt64 else f)) := by rw [if_neg hk0, if_neg hk0]
    rw [hw9] at hP hD
    refine vx_ret ?_
    refine W.widen (k := 3) (n := 18) (Nat.le_of_ble_eq_true rfl) (Nat.le_of_ble_eq_true rfl) ?_
    exact W.iret (v := 1) hx hb hr (fun t ht hW => ⟨⟨1, (), rfl, hk9.symm, by rw [ht]; exact hP, hD⟩, hS.F ht⟩) hS.2.2 dL_decode_14
  rw [wrW_mxP] at hP hD
  refine lv_i2l hx hb dL_decode_7 rfl ?_
  refine lstN hx hb hK hP hD hS 35 1 rfl rfl 0 (by omega) ((Nat.le_of_ble_eq_true rfl)) dL_decode_8 (fun H locs hP hD hS => ?_)
  rw [wrW_set] at hP hD
  have hP : va_P D vwCl (wrW cI cL cM a o (x_dec x q) (vp_updL f 0 ((dfX (x_dec x q) (max (q_c (x_tx (x_dec x q))) (q_c (x_de (x_dec x q))))).toInt64))) H := hP
  have hD : va_D A (wrW cI cL cM a o (x_dec x q) (vp_updL f 0 ((dfX (x_dec x q) (max (q_c (x_tx (x_dec x q))) (q_c (x_de (x_dec x q))))).toInt64))) := hD
  refine lv_goto (tgt := 15) hx hb dL_decode_9 (by decide) ?_
  refine lv_iconst (v := 0) hx hb dL_decode_15 (by decide) ?_
  have hw9 : (wrW cI cL cM a o (x_dec x q) (vp_updL f 0 ((dfX (x_dec x q) (max (q_c (x_tx (x_dec x q))) (q_c (x_de (x_dec x q))))).toInt64))) = (wrW cI cL cM a o (if cdDec q = 0 then (x_dec x q) else x) (if cdDec q = 0 then vp_updL f 0 (dfX (x_dec x q) (max (q_c (x_tx (x_dec x q))) (q_c (x_de (x_dec x q))))).toInt64 else f)) := by rw [if_pos hok, if_pos hok]
  rw [hw9] at hP hD
  refine vx_ret ?_
  refine W.widen (k := 3) (n := 18) (Nat.le_of_ble_eq_true rfl) (Nat.le_of_ble_eq_true rfl) ?_
  exact W.iret (v := 0) hx hb hr (fun t ht hW => ⟨⟨0, (), rfl, hok.symm, by rw [ht]; exact hP, hD⟩, hS.F ht⟩) hS.2.2 dL_decode_16

set_option maxHeartbeats 4000000 in
set_option maxRecDepth 100000 in
theorem c_L_output (l : Launch) (hnt : l.stackTraces = false) (D : va_G) (cI cL cM : ClassId) (A : Nat → Prop) (sa : Nat → Nat) (a : Nat → Nat) (o : Nat) (x : Mx) (f : Nat → Int64) (q : Int32) (hdc : q_c (x_de x) ≤ 80) : mW l yL_output wsL_output ({ frames := 8, cells := 3, slots := 18, locals := 132 }) D (tB cI cL cM) A sa [.ref (a 0), .int q, .ref o] (wrW cI cL cM a o x f) (cdPlc (x_de x) q) (wrW cI cL cM a o (if cdPlc (x_de x) q = 0 then x else x) (if cdPlc (x_de x) q = 0 then vp_updL f 0 (q_at (x_de x) q).toInt64 else f)) := by
  refine vx_ofWH (cc := cL_output) (maxL := 4) (ret := (some .int)) (by decide) rfl ?_
  intro p e s m args below meth c s₁ B hml hv
  obtain ⟨rfl, ⟨hP, hEX, hD, hA⟩, hN⟩ := hv
  have hE := hEX.1
  have hK := hE.1
  have hx := B.exec
  have hb := B.bytes
  have hr := B.returns
  have hts := atoms_spec (ws := wsL_output) B.pre
  have htb := vx_table (x := yL_output) B (hts _ List.mem_cons_self)
  have hown : s.vm.findClass RL = some m.cls := findClass_of_methodNamed B.named
  have hlocks := B.notSynchronized
  have hS : va_S A s.heap s.heap [] := va_S.rf
  have hl := lv_entry ([.ref (a 0), .int q, .ref o]) (n := 4) (Nat.le_of_ble_eq_true rfl)
  rw [lg_entry_eq]
  generalize (lg_sl ([.ref (a 0), .int q, .ref o]) ++ List.replicate (4 - (lg_sl ([.ref (a 0), .int q, .ref o])).length) Slot.unset).toArray = ls at hl ⊢
  have hl : lv_has ls 4 [(0, .ref (a 0)), (1, .int q), (2, .ref o)] := hl
  refine lv_aload_n hx hb dL_output_0 rfl (lv_at hl 2 rfl) ?_
  refine lv_iconst (v := 0) hx hb dL_output_1 (by decide) ?_
  refine lv_aload_n hx hb dL_output_2 rfl (lv_at hl 0 rfl) ?_
  refine lv_iload_n hx hb dL_output_3 rfl (lv_at hl 1 rfl) ?_
  refine kIg (xVg (As := [.int q]) (rest := [.int 0, .ref o]) ⟨hx, hb, hml, hown, hts⟩ (c_X4_output l hnt D cI cL cM _ sa a x q hdc) (cwV 1 hts gL_output_X4_output rfl rfl rfl (by decide +kernel) ⟨(Nat.le_of_ble_eq_true rfl), (Nat.le_of_ble_eq_true rfl)⟩) hEX hP hD hS hA (segI 0 35) seg35 (wrW_mxC cI cL cM a o x f) 0 rfl (wrW_0 cI cL cM a o x f) rfl hl.1 rfl (Nat.le_of_ble_eq_true rfl) dL_output_4 ⟨(Nat.le_of_ble_eq_true rfl), (Nat.le_of_ble_eq_true rfl)⟩) hP hD hS hA (is := segI 0 35) (wrW_mxC cI cL cM a o x f) (mxW_fst cI cL cM a _ _) (fun E9 ce9 q9 H locs hth9 hP hS h91 h92 h93 => ?_) (fun H locs hok hP hD hS => ?_)
  · obtain ⟨rfl, hk9⟩ := hth9
    refine vx_catch hown [] ⟨0, 9, 12, 25⟩ [] htb (fun _ h => absurd h List.not_mem_nil) (by decide) (by decide) (hts _ (List.mem_of_getElem? (i := 1) rfl)) (xW_use hEX.2.2.2.2 _ _ (List.mem_of_getElem? (i := 5) rfl)) h91 h92 h93 ?_
    have hk0 : ¬ cdPlc (x_de x) q = 0 := by rw [hk9]; decide
    refine lv_astore_n (lv' := [(3, .ref q9), (0, .ref (a 0)), (1, .int q), (2, .ref o)]) hx hb dL_output_12 rfl hl (by decide) rfl (fun ls hl => ?_)
    refine lv_iconst (v := 1) hx hb dL_output_13 (by decide) ?_
    have hw9 : (wrW cI cL cM a o x f) = (wrW cI cL cM a o (if cdPlc (x_de x) q = 0 then x else x) (if cdPlc (x_de x) q = 0 then vp_updL f 0 (q_at (x_de x) q).toInt64 else f)) := by rw [if_neg hk0, if_neg hk0]
    rw [hw9] at hP hD
    refine vx_ret ?_
    refine W.widen (k := 3) (n := 18) (Nat.le_of_ble_eq_true rfl) (Nat.le_of_ble_eq_true rfl) ?_
    exact W.iret (v := 1) hx hb hr (fun t ht hW => ⟨⟨1, (), rfl, hk9.symm, by rw [ht]; exact hP, hD⟩, hS.F ht⟩) hS.2.2 dL_output_14
  rw [wrW_mxP] at hP hD
  refine lv_i2l hx hb dL_output_7 rfl ?_
  refine lstN hx hb hK hP hD hS 35 1 rfl rfl 0 (by omega) ((Nat.le_of_ble_eq_true rfl)) dL_output_8 (fun H locs hP hD hS => ?_)
  rw [wrW_set] at hP hD
  have hP : va_P D vwCl (wrW cI cL cM a o x (vp_updL f 0 ((q_at (x_de x) q).toInt64))) H := hP
  have hD : va_D A (wrW cI cL cM a o x (vp_updL f 0 ((q_at (x_de x) q).toInt64))) := hD
  refine lv_goto (tgt := 15) hx hb dL_output_9 (by decide) ?_
  refine lv_iconst (v := 0) hx hb dL_output_15 (by decide) ?_
  have hw9 : (wrW cI cL cM a o x (vp_updL f 0 ((q_at (x_de x) q).toInt64))) = (wrW cI cL cM a o (if cdPlc (x_de x) q = 0 then x else x) (if cdPlc (x_de x) q = 0 then vp_updL f 0 (q_at (x_de x) q).toInt64 else f)) := by rw [if_pos hok, if_pos hok]
  rw [hw9] at hP hD
  refine vx_ret ?_
  refine W.widen (k := 3) (n := 18) (Nat.le_of_ble_eq_true rfl) (Nat.le_of_ble_eq_true rfl) ?_
  exact W.iret (v := 0) hx hb hr (fun t ht hW => ⟨⟨0, (), rfl, hok.symm, by rw [ht]; exact hP, hD⟩, hS.F ht⟩) hS.2.2 dL_output_16
