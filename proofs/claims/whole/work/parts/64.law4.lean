section LAWC
variable {p : Program} {l : Launch} {e : Env} {s : State} {m : MethodId} {below : List Frame} {meth : Method} {c : Code} {sb L : Nat} {xs : Nat → Int32} {D : va_G} {cI cL cM : ClassId} {sa : Nat → Nat} {a bb : Nat → Nat} {o : Nat} {Q : State → Prop} {cells slots n : Nat} {x : Mx} {f : Nat → Int64} {u : RS} {H : Heap} {locs : List Loc} {ls : Array Slot} {A : Nat → Prop}
set_option maxHeartbeats 4000000 in
set_option maxRecDepth 100000 in
theorem lw_addModel (C : LCx p l s m c sb L xs D cI cL cM sa A) (hn : 4 * n + 4 ≤ L) (hcl : cells + 3 ≤ 601024 ∧ slots + 18 ≤ 7293034) (hR : Rel x u n) (hP : va_P D vwCl (lawW cI cL cM a o bb x f u) H) (hD : va_D A (lawW cI cL cM a o bb x f u)) (hS : va_S A s.heap H locs) (hl : lv_has ls 9 (lvL n sb o a bb)) (nx : NX p l e s m below meth c sb D cI cL cM A a o bb cells slots n Q) : W p l e room_1 s m #[Value.ref sb] below meth c H locs cells slots Q (F0 m 184 ls []) := by
  obtain ⟨⟨hnt, hx, hb, hml, hown⟩, hts, hEX, hN, hX, hbl, hbA, hA, hL⟩ := C
  have hE := hEX.1
  have hK := hE.1
  have i1 : vp_in (nI (4 * n) + 1) L := sc_in (k := 1) hL hn (by omega)
  have i2 : vp_in (nI (4 * n) + 2) L := sc_in (k := 2) hL hn (by omega)
  have i3 : vp_in (nI (4 * n) + 3) L := sc_in (k := 3) hL hn (by omega)
  refine lv_aload_n hx hb dL_law_184 rfl (lv_at hl 3 rfl) ?_
  refine lv_aload_n hx hb dL_law_185 rfl (lv_at hl 4 rfl) ?_
  refine lv_iload hx hb dL_law_186 (lv_at hl 0 rfl) ?_
  refine lv_iconst (v := 1) hx hb dL_law_188 (by decide) ?_
  refine lv_iadd hx hb dL_law_189 ?_
  refine va_sld hx hb hX hbl hbA hS i1 dL_law_190 ?_
  refine lv_aload_n hx hb dL_law_191 rfl (lv_at hl 4 rfl) ?_
  refine lv_iload hx hb dL_law_192 (lv_at hl 0 rfl) ?_
  refine lv_iconst (v := 2) hx hb dL_law_194 (by decide) ?_
  refine lv_iadd hx hb dL_law_195 ?_
  refine va_sld hx hb hX hbl hbA hS i2 dL_law_196 ?_
  refine lv_aload_n hx hb dL_law_197 rfl (lv_at hl 4 rfl) ?_
  refine lv_iload hx hb dL_law_198 (lv_at hl 0 rfl) ?_
  refine lv_iconst (v := 3) hx hb dL_law_200 (by decide) ?_
  refine lv_iadd hx hb dL_law_201 ?_
  refine va_sld hx hb hX hbl hbA hS i3 dL_law_202 ?_
  refine lv_aload_n hx hb dL_law_203 rfl (lv_at hl 1 rfl) ?_
  refine kW (As := [.ref (a 0), .int (xs (nI (4 * n) + 1).toNatClampNeg), .int (xs (nI (4 * n) + 2).toNatClampNeg), .int (xs (nI (4 * n) + 3).toNatClampNeg), .ref o]) (rest := []) ⟨hx, hb, hml, hown, hts⟩ (c_L_addModel l hnt D cI cL cM _ sa a o x f (xs (nI (4 * n) + 1).toNatClampNeg) (xs (nI (4 * n) + 2).toNatClampNeg) (xs (nI (4 * n) + 3).toNatClampNeg) hR.n6) (vx_cwSW 5 hts gL_law_L_addModel rfl rfl rfl (by decide +kernel) ⟨(Nat.le_of_ble_eq_true rfl), (Nat.le_of_ble_eq_true rfl)⟩) hEX hN hP hD hS hA (segI 0 36) seg36 (lawW_wrC cI cL cM a o bb x f u) (wrW_fst cI cL cM a o _ _ _ _) rfl hl.1 rfl (Nat.le_of_ble_eq_true rfl) dL_law_204 ⟨hcl.1, hcl.2⟩ (fun H locs hP hD hS => ?_)
  rw [lawW_wrP] at hP hD
  refine lv_topi (fun k9 hk9 => ?_)
  refine lv_istore (lv' := [(5, .int k9), (4, .int (nI (4 * n))), (3, .ref o), (2, .ref (bb 0)), (1, .ref (a 0)), (0, .ref sb)]) hx hb dL_law_207 hl (by decide) rfl (fun ls hl => ?_)
  refine lv_aload_n hx hb dL_law_209 rfl (lv_at hl 3 rfl) ?_
  refine lv_aload_n hx hb dL_law_210 rfl (lv_at hl 5 rfl) ?_
  refine lv_iload hx hb dL_law_211 (lv_at hl 1 rfl) ?_
  refine lv_iconst (v := 1) hx hb dL_law_213 (by decide) ?_
  refine lv_iadd hx hb dL_law_214 ?_
  refine va_sld hx hb hX hbl hbA hS i1 dL_law_215 ?_
  refine lv_aload_n hx hb dL_law_216 rfl (lv_at hl 5 rfl) ?_
  refine lv_iload hx hb dL_law_217 (lv_at hl 1 rfl) ?_
  refine lv_iconst (v := 2) hx hb dL_law_219 (by decide) ?_
  refine lv_iadd hx hb dL_law_220 ?_
  refine va_sld hx hb hX hbl hbA hS i2 dL_law_221 ?_
  refine lv_aload_n hx hb dL_law_222 rfl (lv_at hl 5 rfl) ?_
  refine lv_iload hx hb dL_law_223 (lv_at hl 1 rfl) ?_
  refine lv_iconst (v := 3) hx hb dL_law_225 (by decide) ?_
  refine lv_iadd hx hb dL_law_226 ?_
  refine va_sld hx hb hX hbl hbA hS i3 dL_law_227 ?_
  refine kI (rV (As := [.int (xs (nI (4 * n) + 1).toNatClampNeg), .int (xs (nI (4 * n) + 2).toNatClampNeg), .int (xs (nI (4 * n) + 3).toNatClampNeg)]) (rest := []) ⟨hx, hb, hml, hown, hts⟩ (c_X5_addModel l D cI cL cM _ bb u (xs (nI (4 * n) + 1).toNatClampNeg) (xs (nI (4 * n) + 2).toNatClampNeg) (xs (nI (4 * n) + 3).toNatClampNeg) hR.rn6) (cwV 3 hts gL_law_X5_addModel rfl rfl rfl (by decide +kernel) ⟨(Nat.le_of_ble_eq_true rfl), (Nat.le_of_ble_eq_true rfl)⟩) hE hP hD (segI 36 13) seg13 (lawW_rfC cI cL cM a o bb _ _ _) rfl (rfW_0 cI bb _) rfl hl.1 rfl (Nat.le_of_ble_eq_true rfl) dL_law_228 ⟨hcl.1, hcl.2⟩) hP hD hS hA (is := (segI 36 13)) (lawW_rfC cI cL cM a o bb _ _ _) (rfW_fst cI bb _ _) (fun H locs hP hD hS => ?_)
  rw [lawW_rfP] at hP hD
  refine lv_topi (fun r9 hr9 => ?_)
  have hC9 := cl_addModel hR (xs (nI (4 * n) + 1).toNatClampNeg) (xs (nI (4 * n) + 2).toNatClampNeg) (xs (nI (4 * n) + 3).toNatClampNeg)
  obtain ⟨k1, k2, k3⟩ := hC9
  refine lv_istore (lv' := [(6, .int r9), (5, .int k9), (4, .int (nI (4 * n))), (3, .ref o), (2, .ref (bb 0)), (1, .ref (a 0)), (0, .ref sb)]) hx hb dL_law_231 hl (by decide) rfl (fun ls hl => ?_)
  refine lv_aload_n hx hb dL_law_233 rfl (lv_at hl 4 rfl) ?_
  refine kI (rV (As := []) (rest := []) ⟨hx, hb, hml, hown, hts⟩ (c_X5_thrown l D cI cL cM _ bb _) (cwV 0 hts gL_law_X5_thrown rfl rfl rfl (by decide +kernel) ⟨(Nat.le_of_ble_eq_true rfl), (Nat.le_of_ble_eq_true rfl)⟩) hE hP hD (segI 36 13) seg13 (lawW_rfC cI cL cM a o bb _ _ _) rfl (rfW_0 cI bb _) rfl hl.1 rfl (Nat.le_of_ble_eq_true rfl) dL_law_234 ⟨hcl.1, hcl.2⟩) hP hD hS hA (is := (segI 36 13)) (lawW_rfC cI cL cM a o bb _ _ _) (rfW_fst cI bb _ _) (fun H locs hP hD hS => ?_)
  rw [lawW_rfP] at hP hD
  refine lv_topi (fun t9 ht9 => ?_)
  refine lv_iload hx hb dL_law_237 (lv_at hl 1 rfl) ?_
  refine lv_icmp_eq (tgt := 244) hx hb dL_law_239 (by decide) (fun _ => ?_) (fun h9 => absurd ((ht9.trans k1).trans hk9.symm) h9)
  refine lv_iload hx hb dL_law_244 (lv_at hl 1 rfl) ?_
  refine lv_if_ne (tgt := 261) hx hb dL_law_246 (by decide) (fun g9 => ?_) (fun g9 => ?_)
  · refine lv_goto (tgt := 1589) hx hb dL_law_261 (by decide) ?_
    exact nx _ _ _ _ _ _ k3 hP hD hS (lv_sub hl [2, 3, 4, 5, 6] rfl)
  · have g0 : cdAdd x (xs (nI (4 * n) + 1).toNatClampNeg) (xs (nI (4 * n) + 2).toNatClampNeg) (xs (nI (4 * n) + 3).toNatClampNeg) = 0 := hk9.symm.trans g9
    refine lv_aload_n hx hb dL_law_249 rfl (lv_at hl 3 rfl) ?_
    refine lv_iconst (v := 0) hx hb dL_law_250 (by decide) ?_
    refine lldN hx hb hK hP 35 1 (lawW_35 cI cL cM a o bb _ _ _) rfl 0 (by omega) (Nat.le_of_ble_eq_true rfl) dL_law_251 ?_
    refine lv_topl (fun v9 hv9 => ?_)
    refine lv_iload hx hb dL_law_252 (lv_at hl 0 rfl) ?_
    refine lv_i2l hx hb dL_law_254 rfl ?_
    refine W.lcmp hx hb dL_law_255 ?_
    refine lv_if_eq (tgt := 261) hx hb dL_law_256 (by decide) (fun _ => ?_) (fun h9 => absurd ((lg_cmp_eq _ _).mpr (by rw [hv9, if_pos g0, pk_uLs, k2 g0, hr9])) h9)
    refine lv_goto (tgt := 1589) hx hb dL_law_261 (by decide) ?_
    exact nx _ _ _ _ _ _ k3 hP hD hS (lv_sub hl [2, 3, 4, 5, 6] rfl)
set_option maxHeartbeats 4000000 in
set_option maxRecDepth 100000 in
theorem lw_removeModel (C : LCx p l s m c sb L xs D cI cL cM sa A) (hn : 4 * n + 4 ≤ L) (hcl : cells + 3 ≤ 601024 ∧ slots + 18 ≤ 7293034) (hR : Rel x u n) (hP : va_P D vwCl (lawW cI cL cM a o bb x f u) H) (hD : va_D A (lawW cI cL cM a o bb x f u)) (hS : va_S A s.heap H locs) (hl : lv_has ls 9 (lvL n sb o a bb)) (nx : NX p l e s m below meth c sb D cI cL cM A a o bb cells slots n Q) : W p l e room_1 s m #[Value.ref sb] below meth c H locs cells slots Q (F0 m 264 ls []) := by
  obtain ⟨⟨hnt, hx, hb, hml, hown⟩, hts, hEX, hN, hX, hbl, hbA, hA, hL⟩ := C
  have hE := hEX.1
  have hK := hE.1
  have i1 : vp_in (nI (4 * n) + 1) L := sc_in (k := 1) hL hn (by omega)
  have i2 : vp_in (nI (4 * n) + 2) L := sc_in (k := 2) hL hn (by omega)
  have i3 : vp_in (nI (4 * n) + 3) L := sc_in (k := 3) hL hn (by omega)
  refine lv_aload_n hx hb dL_law_264 rfl (lv_at hl 3 rfl) ?_
  refine lv_aload_n hx hb dL_law_265 rfl (lv_at hl 1 rfl) ?_
  refine kW (As := [.ref (a 0), .ref o]) (rest := []) ⟨hx, hb, hml, hown, hts⟩ (c_L_removeModel l hnt D cI cL cM _ sa a o x f  hR.n6) (vx_cwSW 2 hts gL_law_L_removeModel rfl rfl rfl (by decide +kernel) ⟨(Nat.le_of_ble_eq_true rfl), (Nat.le_of_ble_eq_true rfl)⟩) hEX hN hP hD hS hA (segI 0 36) seg36 (lawW_wrC cI cL cM a o bb x f u) (wrW_fst cI cL cM a o _ _ _ _) rfl hl.1 rfl (Nat.le_of_ble_eq_true rfl) dL_law_266 ⟨hcl.1, hcl.2⟩ (fun H locs hP hD hS => ?_)
  rw [lawW_wrP] at hP hD
  refine lv_topi (fun k9 hk9 => ?_)
  refine lv_istore (lv' := [(5, .int k9), (4, .int (nI (4 * n))), (3, .ref o), (2, .ref (bb 0)), (1, .ref (a 0)), (0, .ref sb)]) hx hb dL_law_269 hl (by decide) rfl (fun ls hl => ?_)
  refine lv_aload_n hx hb dL_law_271 rfl (lv_at hl 3 rfl) ?_
  refine kI (rV (As := []) (rest := []) ⟨hx, hb, hml, hown, hts⟩ (c_X5_removeModel l D cI cL cM _ bb u  hR.rn6) (cwV 0 hts gL_law_X5_removeModel rfl rfl rfl (by decide +kernel) ⟨(Nat.le_of_ble_eq_true rfl), (Nat.le_of_ble_eq_true rfl)⟩) hE hP hD (segI 36 13) seg13 (lawW_rfC cI cL cM a o bb _ _ _) rfl (rfW_0 cI bb _) rfl hl.1 rfl (Nat.le_of_ble_eq_true rfl) dL_law_272 ⟨hcl.1, hcl.2⟩) hP hD hS hA (is := (segI 36 13)) (lawW_rfC cI cL cM a o bb _ _ _) (rfW_fst cI bb _ _) (fun H locs hP hD hS => ?_)
  rw [lawW_rfP] at hP hD
  refine lv_topi (fun r9 hr9 => ?_)
  have hC9 := cl_removeModel hR
  obtain ⟨k1, k2, k3⟩ := hC9
  refine lv_istore (lv' := [(6, .int r9), (5, .int k9), (4, .int (nI (4 * n))), (3, .ref o), (2, .ref (bb 0)), (1, .ref (a 0)), (0, .ref sb)]) hx hb dL_law_275 hl (by decide) rfl (fun ls hl => ?_)
  refine lv_aload_n hx hb dL_law_277 rfl (lv_at hl 4 rfl) ?_
  refine kI (rV (As := []) (rest := []) ⟨hx, hb, hml, hown, hts⟩ (c_X5_thrown l D cI cL cM _ bb _) (cwV 0 hts gL_law_X5_thrown rfl rfl rfl (by decide +kernel) ⟨(Nat.le_of_ble_eq_true rfl), (Nat.le_of_ble_eq_true rfl)⟩) hE hP hD (segI 36 13) seg13 (lawW_rfC cI cL cM a o bb _ _ _) rfl (rfW_0 cI bb _) rfl hl.1 rfl (Nat.le_of_ble_eq_true rfl) dL_law_278 ⟨hcl.1, hcl.2⟩) hP hD hS hA (is := (segI 36 13)) (lawW_rfC cI cL cM a o bb _ _ _) (rfW_fst cI bb _ _) (fun H locs hP hD hS => ?_)
  rw [lawW_rfP] at hP hD
  refine lv_topi (fun t9 ht9 => ?_)
  refine lv_iload hx hb dL_law_281 (lv_at hl 1 rfl) ?_
  refine lv_icmp_eq (tgt := 288) hx hb dL_law_283 (by decide) (fun _ => ?_) (fun h9 => absurd ((ht9.trans k1).trans hk9.symm) h9)
  refine lv_iload hx hb dL_law_288 (lv_at hl 1 rfl) ?_
  refine lv_if_ne (tgt := 305) hx hb dL_law_290 (by decide) (fun g9 => ?_) (fun g9 => ?_)
  · refine lv_goto (tgt := 1589) hx hb dL_law_305 (by decide) ?_
    exact nx _ _ _ _ _ _ k3 hP hD hS (lv_sub hl [2, 3, 4, 5, 6] rfl)
  · have g0 : cdRem x = 0 := hk9.symm.trans g9
    refine lv_aload_n hx hb dL_law_293 rfl (lv_at hl 3 rfl) ?_
    refine lv_iconst (v := 0) hx hb dL_law_294 (by decide) ?_
    refine lldN hx hb hK hP 35 1 (lawW_35 cI cL cM a o bb _ _ _) rfl 0 (by omega) (Nat.le_of_ble_eq_true rfl) dL_law_295 ?_
    refine lv_topl (fun v9 hv9 => ?_)
    refine lv_iload hx hb dL_law_296 (lv_at hl 0 rfl) ?_
    refine lv_i2l hx hb dL_law_298 rfl ?_
    refine W.lcmp hx hb dL_law_299 ?_
    refine lv_if_eq (tgt := 305) hx hb dL_law_300 (by decide) (fun _ => ?_) (fun h9 => absurd ((lg_cmp_eq _ _).mpr (by rw [hv9, if_pos g0, pk_uLs, k2 g0, hr9])) h9)
    refine lv_goto (tgt := 1589) hx hb dL_law_305 (by decide) ?_
    exact nx _ _ _ _ _ _ k3 hP hD hS (lv_sub hl [2, 3, 4, 5, 6] rfl)
set_option maxHeartbeats 4000000 in
set_option maxRecDepth 100000 in
theorem lw_setRate (C : LCx p l s m c sb L xs D cI cL cM sa A) (hn : 4 * n + 4 ≤ L) (hcl : cells + 3 ≤ 601024 ∧ slots + 18 ≤ 7293034) (hR : Rel x u n) (hP : va_P D vwCl (lawW cI cL cM a o bb x f u) H) (hD : va_D A (lawW cI cL cM a o bb x f u)) (hS : va_S A s.heap H locs) (hl : lv_has ls 9 (lvL n sb o a bb)) (nx : NX p l e s m below meth c sb D cI cL cM A a o bb cells slots n Q) : W p l e room_1 s m #[Value.ref sb] below meth c H locs cells slots Q (F0 m 308 ls []) := by
  obtain ⟨⟨hnt, hx, hb, hml, hown⟩, hts, hEX, hN, hX, hbl, hbA, hA, hL⟩ := C
  have hE := hEX.1
  have hK := hE.1
  have i1 : vp_in (nI (4 * n) + 1) L := sc_in (k := 1) hL hn (by omega)
  have i2 : vp_in (nI (4 * n) + 2) L := sc_in (k := 2) hL hn (by omega)
  have i3 : vp_in (nI (4 * n) + 3) L := sc_in (k := 3) hL hn (by omega)
  refine lv_aload_n hx hb dL_law_308 rfl (lv_at hl 3 rfl) ?_
  refine lv_aload_n hx hb dL_law_309 rfl (lv_at hl 4 rfl) ?_
  refine lv_iload hx hb dL_law_310 (lv_at hl 0 rfl) ?_
  refine lv_iconst (v := 1) hx hb dL_law_312 (by decide) ?_
  refine lv_iadd hx hb dL_law_313 ?_
  refine va_sld hx hb hX hbl hbA hS i1 dL_law_314 ?_
  refine lv_aload_n hx hb dL_law_315 rfl (lv_at hl 4 rfl) ?_
  refine lv_iload hx hb dL_law_316 (lv_at hl 0 rfl) ?_
  refine lv_iconst (v := 2) hx hb dL_law_318 (by decide) ?_
  refine lv_iadd hx hb dL_law_319 ?_
  refine va_sld hx hb hX hbl hbA hS i2 dL_law_320 ?_
  refine lv_aload_n hx hb dL_law_321 rfl (lv_at hl 1 rfl) ?_
  refine kW (As := [.ref (a 0), .int (xs (nI (4 * n) + 1).toNatClampNeg), .int (xs (nI (4 * n) + 2).toNatClampNeg), .ref o]) (rest := []) ⟨hx, hb, hml, hown, hts⟩ (c_L_setRate l hnt D cI cL cM _ sa a o x f (xs (nI (4 * n) + 1).toNatClampNeg) (xs (nI (4 * n) + 2).toNatClampNeg) hR.n6) (vx_cwSW 4 hts gL_law_L_setRate rfl rfl rfl (by decide +kernel) ⟨(Nat.le_of_ble_eq_true rfl), (Nat.le_of_ble_eq_true rfl)⟩) hEX hN hP hD hS hA (segI 0 36) seg36 (lawW_wrC cI cL cM a o bb x f u) (wrW_fst cI cL cM a o _ _ _ _) rfl hl.1 rfl (Nat.le_of_ble_eq_true rfl) dL_law_322 ⟨hcl.1, hcl.2⟩ (fun H locs hP hD hS => ?_)
  rw [lawW_wrP] at hP hD
  refine lv_topi (fun k9 hk9 => ?_)
  refine lv_istore (lv' := [(5, .int k9), (4, .int (nI (4 * n))), (3, .ref o), (2, .ref (bb 0)), (1, .ref (a 0)), (0, .ref sb)]) hx hb dL_law_325 hl (by decide) rfl (fun ls hl => ?_)
  refine lv_aload_n hx hb dL_law_327 rfl (lv_at hl 3 rfl) ?_
  refine lv_aload_n hx hb dL_law_328 rfl (lv_at hl 5 rfl) ?_
  refine lv_iload hx hb dL_law_329 (lv_at hl 1 rfl) ?_
  refine lv_iconst (v := 1) hx hb dL_law_331 (by decide) ?_
  refine lv_iadd hx hb dL_law_332 ?_
  refine va_sld hx hb hX hbl hbA hS i1 dL_law_333 ?_
  refine lv_aload_n hx hb dL_law_334 rfl (lv_at hl 5 rfl) ?_
  refine lv_iload hx hb dL_law_335 (lv_at hl 1 rfl) ?_
  refine lv_iconst (v := 2) hx hb dL_law_337 (by decide) ?_
  refine lv_iadd hx hb dL_law_338 ?_
  refine va_sld hx hb hX hbl hbA hS i2 dL_law_339 ?_
  refine kI (rV (As := [.int (xs (nI (4 * n) + 1).toNatClampNeg), .int (xs (nI (4 * n) + 2).toNatClampNeg)]) (rest := []) ⟨hx, hb, hml, hown, hts⟩ (c_X5_setRate l D cI cL cM _ bb u (xs (nI (4 * n) + 1).toNatClampNeg) (xs (nI (4 * n) + 2).toNatClampNeg) (PV_RSf hR.pv)) (cwV 2 hts gL_law_X5_setRate rfl rfl rfl (by decide +kernel) ⟨(Nat.le_of_ble_eq_true rfl), (Nat.le_of_ble_eq_true rfl)⟩) hE hP hD (segI 36 13) seg13 (lawW_rfC cI cL cM a o bb _ _ _) rfl (rfW_0 cI bb _) rfl hl.1 rfl (Nat.le_of_ble_eq_true rfl) dL_law_340 ⟨hcl.1, hcl.2⟩) hP hD hS hA (is := (segI 36 13)) (lawW_rfC cI cL cM a o bb _ _ _) (rfW_fst cI bb _ _) (fun H locs hP hD hS => ?_)
  rw [lawW_rfP] at hP hD
  refine lv_topi (fun r9 hr9 => ?_)
  have hC9 := cl_setRate hR (xs (nI (4 * n) + 1).toNatClampNeg) (xs (nI (4 * n) + 2).toNatClampNeg)
  obtain ⟨k1, k2, k3⟩ := hC9
  refine lv_istore (lv' := [(6, .int r9), (5, .int k9), (4, .int (nI (4 * n))), (3, .ref o), (2, .ref (bb 0)), (1, .ref (a 0)), (0, .ref sb)]) hx hb dL_law_343 hl (by decide) rfl (fun ls hl => ?_)
  refine lv_aload_n hx hb dL_law_345 rfl (lv_at hl 4 rfl) ?_
  refine kI (rV (As := []) (rest := []) ⟨hx, hb, hml, hown, hts⟩ (c_X5_thrown l D cI cL cM _ bb _) (cwV 0 hts gL_law_X5_thrown rfl rfl rfl (by decide +kernel) ⟨(Nat.le_of_ble_eq_true rfl), (Nat.le_of_ble_eq_true rfl)⟩) hE hP hD (segI 36 13) seg13 (lawW_rfC cI cL cM a o bb _ _ _) rfl (rfW_0 cI bb _) rfl hl.1 rfl (Nat.le_of_ble_eq_true rfl) dL_law_346 ⟨hcl.1, hcl.2⟩) hP hD hS hA (is := (segI 36 13)) (lawW_rfC cI cL cM a o bb _ _ _) (rfW_fst cI bb _ _) (fun H locs hP hD hS => ?_)
  rw [lawW_rfP] at hP hD
  refine lv_topi (fun t9 ht9 => ?_)
  refine lv_iload hx hb dL_law_349 (lv_at hl 1 rfl) ?_
  refine lv_icmp_eq (tgt := 356) hx hb dL_law_351 (by decide) (fun _ => ?_) (fun h9 => absurd ((ht9.trans k1).trans hk9.symm) h9)
  refine lv_iload hx hb dL_law_356 (lv_at hl 1 rfl) ?_
  refine lv_if_ne (tgt := 373) hx hb dL_law_358 (by decide) (fun g9 => ?_) (fun g9 => ?_)
  · refine lv_goto (tgt := 1589) hx hb dL_law_373 (by decide) ?_
    exact nx _ _ _ _ _ _ k3 hP hD hS (lv_sub hl [2, 3, 4, 5, 6] rfl)
  · have g0 : cdRat x (xs (nI (4 * n) + 1).toNatClampNeg) (xs (nI (4 * n) + 2).toNatClampNeg) = 0 := hk9.symm.trans g9
    refine lv_aload_n hx hb dL_law_361 rfl (lv_at hl 3 rfl) ?_
    refine lv_iconst (v := 0) hx hb dL_law_362 (by decide) ?_
    refine lldN hx hb hK hP 35 1 (lawW_35 cI cL cM a o bb _ _ _) rfl 0 (by omega) (Nat.le_of_ble_eq_true rfl) dL_law_363 ?_
    refine lv_topl (fun v9 hv9 => ?_)
    refine lv_iload hx hb dL_law_364 (lv_at hl 0 rfl) ?_
    refine lv_i2l hx hb dL_law_366 rfl ?_
    refine W.lcmp hx hb dL_law_367 ?_
    refine lv_if_eq (tgt := 373) hx hb dL_law_368 (by decide) (fun _ => ?_) (fun h9 => absurd ((lg_cmp_eq _ _).mpr (by rw [hv9, if_pos g0, pk_uLs, k2 g0, hr9])) h9)
    refine lv_goto (tgt := 1589) hx hb dL_law_373 (by decide) ?_
    exact nx _ _ _ _ _ _ k3 hP hD hS (lv_sub hl [2, 3, 4, 5, 6] rfl)
set_option maxHeartbeats 4000000 in
set_option maxRecDepth 100000 in
theorem lw_modelCount (C : LCx p l s m c sb L xs D cI cL cM sa A) (hn : 4 * n + 4 ≤ L) (hcl : cells + 3 ≤ 601024 ∧ slots + 18 ≤ 7293034) (hR : Rel x u n) (hP : va_P D vwCl (lawW cI cL cM a o bb x f u) H) (hD : va_D A (lawW cI cL cM a o bb x f u)) (hS : va_S A s.heap H locs) (hl : lv_has ls 9 (lvL n sb o a bb)) (nx : NX p l e s m below meth c sb D cI cL cM A a o bb cells slots n Q) : W p l e room_1 s m #[Value.ref sb] below meth c H locs cells slots Q (F0 m 376 ls []) := by
  obtain ⟨⟨hnt, hx, hb, hml, hown⟩, hts, hEX, hN, hX, hbl, hbA, hA, hL⟩ := C
  have hE := hEX.1
  have hK := hE.1
  have i1 : vp_in (nI (4 * n) + 1) L := sc_in (k := 1) hL hn (by omega)
  have i2 : vp_in (nI (4 * n) + 2) L := sc_in (k := 2) hL hn (by omega)
  have i3 : vp_in (nI (4 * n) + 3) L := sc_in (k := 3) hL hn (by omega)
  refine W.widen (k := cells + 3) (n := slots + 18) (by omega) (by omega) ?_
  refine lv_aload_n hx hb dL_law_376 rfl (lv_at hl 3 rfl) ?_
  refine kI (rV (As := []) (rest := []) ⟨hx, hb, hml, hown, hts⟩ (c_X4_modelCount l D cI cL cM _ a x  ) (cwV 0 hts gL_law_X4_modelCount rfl rfl rfl (by decide +kernel) ⟨(Nat.le_of_ble_eq_true rfl), (Nat.le_of_ble_eq_true rfl)⟩) hE hP hD (segI 0 35) seg35 (lawW_mxC cI cL cM a o bb _ _ _) rfl (mxW_0 cI cL cM a _) rfl hl.1 rfl (Nat.le_of_ble_eq_true rfl) dL_law_377 ⟨hcl.1, hcl.2⟩) hP hD hS hA (is := (segI 0 35)) (lawW_mxC cI cL cM a o bb _ _ _) (mxW_fst cI cL cM a _ _) (fun H locs hP hD hS => ?_)
  rw [lawW_mxP] at hP hD
  refine lv_topi (fun p9 hp9 => ?_)
  refine lv_aload_n hx hb dL_law_380 rfl (lv_at hl 2 rfl) ?_
  refine kI (rV (As := []) (rest := [.int p9]) ⟨hx, hb, hml, hown, hts⟩ (c_X5_modelCount l D cI cL cM _ bb u  ) (cwV 0 hts gL_law_X5_modelCount rfl rfl rfl (by decide +kernel) ⟨(Nat.le_of_ble_eq_true rfl), (Nat.le_of_ble_eq_true rfl)⟩) hE hP hD (segI 36 13) seg13 (lawW_rfC cI cL cM a o bb _ _ _) rfl (rfW_0 cI bb _) rfl hl.1 rfl (Nat.le_of_ble_eq_true rfl) dL_law_381 ⟨hcl.1, hcl.2⟩) hP hD hS hA (is := (segI 36 13)) (lawW_rfC cI cL cM a o bb _ _ _) (rfW_fst cI bb _ _) (fun H locs hP hD hS => ?_)
  rw [lawW_rfP] at hP hD
  refine lv_topi (fun r9 hr9 => ?_)
  refine lv_icmp_eq (tgt := 1589) hx hb dL_law_384 (by decide) (fun _ => ?_) (fun h9 => absurd (by rw [hp9, hr9, hR.n]) h9)
  exact nx _ _ _ _ _ _ (Rel_t 0 hR) hP hD hS (lv_sub hl [0, 1, 2, 3, 4] rfl)
set_option maxHeartbeats 4000000 in
set_option maxRecDepth 100000 in
theorem lw_feed (C : LCx p l s m c sb L xs D cI cL cM sa A) (hn : 4 * n + 4 ≤ L) (hcl : cells + 3 ≤ 601024 ∧ slots + 18 ≤ 7293034) (hR : Rel x u n) (hP : va_P D vwCl (lawW cI cL cM a o bb x f u) H) (hD : va_D A (lawW cI cL cM a o bb x f u)) (hS : va_S A s.heap H locs) (hl : lv_has ls 9 (lvL n sb o a bb)) (nx : NX p l e s m below meth c sb D cI cL cM A a o bb cells slots n Q) : W p l e room_1 s m #[Value.ref sb] below meth c H locs cells slots Q (F0 m 389 ls []) := by
  obtain ⟨⟨hnt, hx, hb, hml, hown⟩, hts, hEX, hN, hX, hbl, hbA, hA, hL⟩ := C
  have hE := hEX.1
  have hK := hE.1
  have i1 : vp_in (nI (4 * n) + 1) L := sc_in (k := 1) hL hn (by omega)
  have i2 : vp_in (nI (4 * n) + 2) L := sc_in (k := 2) hL hn (by omega)
  have i3 : vp_in (nI (4 * n) + 3) L := sc_in (k := 3) hL hn (by omega)
  refine lv_aload_n hx hb dL_law_389 rfl (lv_at hl 3 rfl) ?_
  refine lv_aload_n hx hb dL_law_390 rfl (lv_at hl 4 rfl) ?_
  refine lv_iload hx hb dL_law_391 (lv_at hl 0 rfl) ?_
  refine lv_iconst (v := 1) hx hb dL_law_393 (by decide) ?_
  refine lv_iadd hx hb dL_law_394 ?_
  refine va_sld hx hb hX hbl hbA hS i1 dL_law_395 ?_
  refine lv_i2l hx hb dL_law_396 rfl ?_
  refine lv_bipush (v := 32) hx hb dL_law_397 (by decide) ?_
  refine lv_lshl hx hb dL_law_399 rfl ?_
  refine lv_aload_n hx hb dL_law_400 rfl (lv_at hl 4 rfl) ?_
  refine lv_iload hx hb dL_law_401 (lv_at hl 0 rfl) ?_
  refine lv_iconst (v := 2) hx hb dL_law_403 (by decide) ?_
  refine lv_iadd hx hb dL_law_404 ?_
  refine va_sld hx hb hX hbl hbA hS i2 dL_law_405 ?_
  refine lv_i2l hx hb dL_law_406 rfl ?_
  refine lv_ldc2 hx hb hown (hts _ (List.mem_of_getElem? (i := 7) rfl)) dL_law_407 ?_
  refine lv_land hx hb dL_law_410 ?_
  refine lv_lor hx hb dL_law_411 ?_
  refine lv_aload_n hx hb dL_law_412 rfl (lv_at hl 4 rfl) ?_
  refine lv_iload hx hb dL_law_413 (lv_at hl 0 rfl) ?_
  refine lv_iconst (v := 3) hx hb dL_law_415 (by decide) ?_
  refine lv_iadd hx hb dL_law_416 ?_
  refine va_sld hx hb hX hbl hbA hS i3 dL_law_417 ?_
  refine lv_aload_n hx hb dL_law_418 rfl (lv_at hl 1 rfl) ?_
  refine kW (As := [.ref (a 0), .long ((((xs (nI (4 * n) + 1).toNatClampNeg).toInt64) <<< ((32 : Int32).toInt64 &&& 63)) ||| (((xs (nI (4 * n) + 2).toNatClampNeg).toInt64) &&& 4294967295)), .int (xs (nI (4 * n) + 3).toNatClampNeg), .ref o]) (rest := []) ⟨hx, hb, hml, hown, hts⟩ (c_L_feed l hnt D cI cL cM _ sa a o x f (((xs (nI (4 * n) + 1).toNatClampNeg).toInt64 <<< ((32 : Int32).toInt64 &&& 63)) ||| ((xs (nI (4 * n) + 2).toNatClampNeg).toInt64 &&& 4294967295)) (xs (nI (4 * n) + 3).toNatClampNeg) hR.tc) (vx_cwSW 4 hts gL_law_L_feed rfl rfl rfl (by decide +kernel) ⟨(Nat.le_of_ble_eq_true rfl), (Nat.le_of_ble_eq_true rfl)⟩) hEX hN hP hD hS hA (segI 0 36) seg36 (lawW_wrC cI cL cM a o bb x f u) (wrW_fst cI cL cM a o _ _ _ _) rfl hl.1 rfl (Nat.le_of_ble_eq_true rfl) dL_law_419 ⟨hcl.1, hcl.2⟩ (fun H locs hP hD hS => ?_)
  rw [lawW_wrP] at hP hD
  refine lv_topi (fun k9 hk9 => ?_)
  refine lv_istore (lv' := [(5, .int k9), (4, .int (nI (4 * n))), (3, .ref o), (2, .ref (bb 0)), (1, .ref (a 0)), (0, .ref sb)]) hx hb dL_law_422 hl (by decide) rfl (fun ls hl => ?_)
  refine lv_aload_n hx hb dL_law_424 rfl (lv_at hl 3 rfl) ?_
  refine lv_aload_n hx hb dL_law_425 rfl (lv_at hl 5 rfl) ?_
  refine lv_iload hx hb dL_law_426 (lv_at hl 1 rfl) ?_
  refine lv_iconst (v := 1) hx hb dL_law_428 (by decide) ?_
  refine lv_iadd hx hb dL_law_429 ?_
  refine va_sld hx hb hX hbl hbA hS i1 dL_law_430 ?_
  refine lv_i2l hx hb dL_law_431 rfl ?_
  refine lv_bipush (v := 32) hx hb dL_law_432 (by decide) ?_
  refine lv_lshl hx hb dL_law_434 rfl ?_
  refine lv_aload_n hx hb dL_law_435 rfl (lv_at hl 5 rfl) ?_
  refine lv_iload hx hb dL_law_436 (lv_at hl 1 rfl) ?_
  refine lv_iconst (v := 2) hx hb dL_law_438 (by decide) ?_
  refine lv_iadd hx hb dL_law_439 ?_
  refine va_sld hx hb hX hbl hbA hS i2 dL_law_440 ?_
  refine lv_i2l hx hb dL_law_441 rfl ?_
  refine lv_ldc2 hx hb hown (hts _ (List.mem_of_getElem? (i := 7) rfl)) dL_law_442 ?_
  refine lv_land hx hb dL_law_445 ?_
  refine lv_lor hx hb dL_law_446 ?_
  refine lv_aload_n hx hb dL_law_447 rfl (lv_at hl 5 rfl) ?_
  refine lv_iload hx hb dL_law_448 (lv_at hl 1 rfl) ?_
  refine lv_iconst (v := 3) hx hb dL_law_450 (by decide) ?_
  refine lv_iadd hx hb dL_law_451 ?_
  refine va_sld hx hb hX hbl hbA hS i3 dL_law_452 ?_
  refine kI (rV (As := [.long ((((xs (nI (4 * n) + 1).toNatClampNeg).toInt64) <<< ((32 : Int32).toInt64 &&& 63)) ||| (((xs (nI (4 * n) + 2).toNatClampNeg).toInt64) &&& 4294967295)), .int (xs (nI (4 * n) + 3).toNatClampNeg)]) (rest := []) ⟨hx, hb, hml, hown, hts⟩ (c_X5_feed l D cI cL cM _ bb u (((xs (nI (4 * n) + 1).toNatClampNeg).toInt64 <<< ((32 : Int32).toInt64 &&& 63)) ||| ((xs (nI (4 * n) + 2).toNatClampNeg).toInt64 &&& 4294967295)) (xs (nI (4 * n) + 3).toNatClampNeg) hR.sz) (cwV 2 hts gL_law_X5_feed rfl rfl rfl (by decide +kernel) ⟨(Nat.le_of_ble_eq_true rfl), (Nat.le_of_ble_eq_true rfl)⟩) hE hP hD (segI 36 13) seg13 (lawW_rfC cI cL cM a o bb _ _ _) rfl (rfW_0 cI bb _) rfl hl.1 rfl (Nat.le_of_ble_eq_true rfl) dL_law_453 ⟨hcl.1, hcl.2⟩) hP hD hS hA (is := (segI 36 13)) (lawW_rfC cI cL cM a o bb _ _ _) (rfW_fst cI bb _ _) (fun H locs hP hD hS => ?_)
  rw [lawW_rfP] at hP hD
  refine lv_topi (fun r9 hr9 => ?_)
  have hC9 := cl_feed hR (((xs (nI (4 * n) + 1).toNatClampNeg).toInt64 <<< ((32 : Int32).toInt64 &&& 63)) ||| ((xs (nI (4 * n) + 2).toNatClampNeg).toInt64 &&& 4294967295)) (xs (nI (4 * n) + 3).toNatClampNeg)
  obtain ⟨k1, k2, k3⟩ := hC9
  refine lv_istore (lv' := [(6, .int r9), (5, .int k9), (4, .int (nI (4 * n))), (3, .ref o), (2, .ref (bb 0)), (1, .ref (a 0)), (0, .ref sb)]) hx hb dL_law_456 hl (by decide) rfl (fun ls hl => ?_)
  refine lv_aload_n hx hb dL_law_458 rfl (lv_at hl 4 rfl) ?_
  refine kI (rV (As := []) (rest := []) ⟨hx, hb, hml, hown, hts⟩ (c_X5_thrown l D cI cL cM _ bb _) (cwV 0 hts gL_law_X5_thrown rfl rfl rfl (by decide +kernel) ⟨(Nat.le_of_ble_eq_true rfl), (Nat.le_of_ble_eq_true rfl)⟩) hE hP hD (segI 36 13) seg13 (lawW_rfC cI cL cM a o bb _ _ _) rfl (rfW_0 cI bb _) rfl hl.1 rfl (Nat.le_of_ble_eq_true rfl) dL_law_459 ⟨hcl.1, hcl.2⟩) hP hD hS hA (is := (segI 36 13)) (lawW_rfC cI cL cM a o bb _ _ _) (rfW_fst cI bb _ _) (fun H locs hP hD hS => ?_)
  rw [lawW_rfP] at hP hD
  refine lv_topi (fun t9 ht9 => ?_)
  refine lv_iload hx hb dL_law_462 (lv_at hl 1 rfl) ?_
  refine lv_icmp_eq (tgt := 469) hx hb dL_law_464 (by decide) (fun _ => ?_) (fun h9 => absurd ((ht9.trans k1).trans hk9.symm) h9)
  refine lv_iload hx hb dL_law_469 (lv_at hl 1 rfl) ?_
  refine lv_if_ne (tgt := 486) hx hb dL_law_471 (by decide) (fun g9 => ?_) (fun g9 => ?_)
  · refine lv_goto (tgt := 1589) hx hb dL_law_486 (by decide) ?_
    exact nx _ _ _ _ _ _ k3 hP hD hS (lv_sub hl [2, 3, 4, 5, 6] rfl)
  · have g0 : cdFee x (xs (nI (4 * n) + 3).toNatClampNeg) = 0 := hk9.symm.trans g9
    refine lv_aload_n hx hb dL_law_474 rfl (lv_at hl 3 rfl) ?_
    refine lv_iconst (v := 0) hx hb dL_law_475 (by decide) ?_
    refine lldN hx hb hK hP 35 1 (lawW_35 cI cL cM a o bb _ _ _) rfl 0 (by omega) (Nat.le_of_ble_eq_true rfl) dL_law_476 ?_
    refine lv_topl (fun v9 hv9 => ?_)
    refine lv_iload hx hb dL_law_477 (lv_at hl 0 rfl) ?_
    refine lv_i2l hx hb dL_law_479 rfl ?_
    refine W.lcmp hx hb dL_law_480 ?_
    refine lv_if_eq (tgt := 486) hx hb dL_law_481 (by decide) (fun _ => ?_) (fun h9 => absurd ((lg_cmp_eq _ _).mpr (by rw [hv9, if_pos g0, pk_uLs, k2 g0, hr9])) h9)
    refine lv_goto (tgt := 1589) hx hb dL_law_486 (by decide) ?_
    exact nx _ _ _ _ _ _ k3 hP hD hS (lv_sub hl [2, 3, 4, 5, 6] rfl)
set_option maxHeartbeats 4000000 in
set_option maxRecDepth 100000 in
theorem lw_fill (C : LCx p l s m c sb L xs D cI cL cM sa A) (hn : 4 * n + 4 ≤ L) (hcl : cells + 3 ≤ 601024 ∧ slots + 18 ≤ 7293034) (hR : Rel x u n) (hP : va_P D vwCl (lawW cI cL cM a o bb x f u) H) (hD : va_D A (lawW cI cL cM a o bb x f u)) (hS : va_S A s.heap H locs) (hl : lv_has ls 9 (lvL n sb o a bb)) (nx : NX p l e s m below meth c sb D cI cL cM A a o bb cells slots n Q) : W p l e room_1 s m #[Value.ref sb] below meth c H locs cells slots Q (F0 m 489 ls []) := by
  obtain ⟨⟨hnt, hx, hb, hml, hown⟩, hts, hEX, hN, hX, hbl, hbA, hA, hL⟩ := C
  have hE := hEX.1
  have hK := hE.1
  have i1 : vp_in (nI (4 * n) + 1) L := sc_in (k := 1) hL hn (by omega)
  have i2 : vp_in (nI (4 * n) + 2) L := sc_in (k := 2) hL hn (by omega)
  have i3 : vp_in (nI (4 * n) + 3) L := sc_in (k := 3) hL hn (by omega)
  refine lv_aload_n hx hb dL_law_489 rfl (lv_at hl 3 rfl) ?_
  refine lv_aload_n hx hb dL_law_490 rfl (lv_at hl 4 rfl) ?_
  refine lv_iload hx hb dL_law_491 (lv_at hl 0 rfl) ?_
  refine lv_iconst (v := 1) hx hb dL_law_493 (by decide) ?_
  refine lv_iadd hx hb dL_law_494 ?_
  refine va_sld hx hb hX hbl hbA hS i1 dL_law_495 ?_
  refine lv_aload_n hx hb dL_law_496 rfl (lv_at hl 4 rfl) ?_
  refine lv_iload hx hb dL_law_497 (lv_at hl 0 rfl) ?_
  refine lv_iconst (v := 2) hx hb dL_law_499 (by decide) ?_
  refine lv_iadd hx hb dL_law_500 ?_
  refine va_sld hx hb hX hbl hbA hS i2 dL_law_501 ?_
  refine lv_aload_n hx hb dL_law_502 rfl (lv_at hl 1 rfl) ?_
  refine kW (As := [.ref (a 0), .int (xs (nI (4 * n) + 1).toNatClampNeg), .int (xs (nI (4 * n) + 2).toNatClampNeg), .ref o]) (rest := []) ⟨hx, hb, hml, hown, hts⟩ (c_L_fill l hnt D cI cL cM _ sa a o x f (xs (nI (4 * n) + 1).toNatClampNeg) (xs (nI (4 * n) + 2).toNatClampNeg) hR.tc) (vx_cwSW 4 hts gL_law_L_fill rfl rfl rfl (by decide +kernel) ⟨(Nat.le_of_ble_eq_true rfl), (Nat.le_of_ble_eq_true rfl)⟩) hEX hN hP hD hS hA (segI 0 36) seg36 (lawW_wrC cI cL cM a o bb x f u) (wrW_fst cI cL cM a o _ _ _ _) rfl hl.1 rfl (Nat.le_of_ble_eq_true rfl) dL_law_503 ⟨hcl.1, hcl.2⟩ (fun H locs hP hD hS => ?_)
  rw [lawW_wrP] at hP hD
  refine lv_topi (fun k9 hk9 => ?_)
  refine lv_istore (lv' := [(5, .int k9), (4, .int (nI (4 * n))), (3, .ref o), (2, .ref (bb 0)), (1, .ref (a 0)), (0, .ref sb)]) hx hb dL_law_506 hl (by decide) rfl (fun ls hl => ?_)
  refine lv_aload_n hx hb dL_law_508 rfl (lv_at hl 3 rfl) ?_
  refine lv_aload_n hx hb dL_law_509 rfl (lv_at hl 5 rfl) ?_
  refine lv_iload hx hb dL_law_510 (lv_at hl 1 rfl) ?_
  refine lv_iconst (v := 1) hx hb dL_law_512 (by decide) ?_
  refine lv_iadd hx hb dL_law_513 ?_
  refine va_sld hx hb hX hbl hbA hS i1 dL_law_514 ?_
  refine lv_aload_n hx hb dL_law_515 rfl (lv_at hl 5 rfl) ?_
  refine lv_iload hx hb dL_law_516 (lv_at hl 1 rfl) ?_
  refine lv_iconst (v := 2) hx hb dL_law_518 (by decide) ?_
  refine lv_iadd hx hb dL_law_519 ?_
  refine va_sld hx hb hX hbl hbA hS i2 dL_law_520 ?_
  refine kI (rV (As := [.int (xs (nI (4 * n) + 1).toNatClampNeg), .int (xs (nI (4 * n) + 2).toNatClampNeg)]) (rest := []) ⟨hx, hb, hml, hown, hts⟩ (c_X5_fill l D cI cL cM _ bb u (xs (nI (4 * n) + 1).toNatClampNeg) (xs (nI (4 * n) + 2).toNatClampNeg) hR.sz) (cwV 2 hts gL_law_X5_fill rfl rfl rfl (by decide +kernel) ⟨(Nat.le_of_ble_eq_true rfl), (Nat.le_of_ble_eq_true rfl)⟩) hE hP hD (segI 36 13) seg13 (lawW_rfC cI cL cM a o bb _ _ _) rfl (rfW_0 cI bb _) rfl hl.1 rfl (Nat.le_of_ble_eq_true rfl) dL_law_521 ⟨hcl.1, hcl.2⟩) hP hD hS hA (is := (segI 36 13)) (lawW_rfC cI cL cM a o bb _ _ _) (rfW_fst cI bb _ _) (fun H locs hP hD hS => ?_)
  rw [lawW_rfP] at hP hD
  refine lv_topi (fun r9 hr9 => ?_)
  have hC9 := cl_fill hR (xs (nI (4 * n) + 1).toNatClampNeg) (xs (nI (4 * n) + 2).toNatClampNeg)
  obtain ⟨k1, k2, k3⟩ := hC9
  refine lv_istore (lv' := [(6, .int r9), (5, .int k9), (4, .int (nI (4 * n))), (3, .ref o), (2, .ref (bb 0)), (1, .ref (a 0)), (0, .ref sb)]) hx hb dL_law_524 hl (by decide) rfl (fun ls hl => ?_)
  refine lv_aload_n hx hb dL_law_526 rfl (lv_at hl 4 rfl) ?_
  refine kI (rV (As := []) (rest := []) ⟨hx, hb, hml, hown, hts⟩ (c_X5_thrown l D cI cL cM _ bb _) (cwV 0 hts gL_law_X5_thrown rfl rfl rfl (by decide +kernel) ⟨(Nat.le_of_ble_eq_true rfl), (Nat.le_of_ble_eq_true rfl)⟩) hE hP hD (segI 36 13) seg13 (lawW_rfC cI cL cM a o bb _ _ _) rfl (rfW_0 cI bb _) rfl hl.1 rfl (Nat.le_of_ble_eq_true rfl) dL_law_527 ⟨hcl.1, hcl.2⟩) hP hD hS hA (is := (segI 36 13)) (lawW_rfC cI cL cM a o bb _ _ _) (rfW_fst cI bb _ _) (fun H locs hP hD hS => ?_)
  rw [lawW_rfP] at hP hD
  refine lv_topi (fun t9 ht9 => ?_)
  refine lv_iload hx hb dL_law_530 (lv_at hl 1 rfl) ?_
  refine lv_icmp_eq (tgt := 537) hx hb dL_law_532 (by decide) (fun _ => ?_) (fun h9 => absurd ((ht9.trans k1).trans hk9.symm) h9)
  refine lv_iload hx hb dL_law_537 (lv_at hl 1 rfl) ?_
  refine lv_if_ne (tgt := 554) hx hb dL_law_539 (by decide) (fun g9 => ?_) (fun g9 => ?_)
  · refine lv_goto (tgt := 1589) hx hb dL_law_554 (by decide) ?_
    exact nx _ _ _ _ _ _ k3 hP hD hS (lv_sub hl [2, 3, 4, 5, 6] rfl)
  · have g0 : cdFil x (xs (nI (4 * n) + 1).toNatClampNeg) (xs (nI (4 * n) + 2).toNatClampNeg) = 0 := hk9.symm.trans g9
    refine lv_aload_n hx hb dL_law_542 rfl (lv_at hl 3 rfl) ?_
    refine lv_iconst (v := 0) hx hb dL_law_543 (by decide) ?_
    refine lldN hx hb hK hP 35 1 (lawW_35 cI cL cM a o bb _ _ _) rfl 0 (by omega) (Nat.le_of_ble_eq_true rfl) dL_law_544 ?_
    refine lv_topl (fun v9 hv9 => ?_)
    refine lv_iload hx hb dL_law_545 (lv_at hl 0 rfl) ?_
    refine lv_i2l hx hb dL_law_547 rfl ?_
    refine W.lcmp hx hb dL_law_548 ?_
    refine lv_if_eq (tgt := 554) hx hb dL_law_549 (by decide) (fun _ => ?_) (fun h9 => absurd ((lg_cmp_eq _ _).mpr (by rw [hv9, if_pos g0, pk_uLs, k2 g0, hr9])) h9)
    refine lv_goto (tgt := 1589) hx hb dL_law_554 (by decide) ?_
    exact nx _ _ _ _ _ _ k3 hP hD hS (lv_sub hl [2, 3, 4, 5, 6] rfl)
set_option maxHeartbeats 4000000 in
set_option maxRecDepth 100000 in
theorem lw_cut (C : LCx p l s m c sb L xs D cI cL cM sa A) (hn : 4 * n + 4 ≤ L) (hcl : cells + 3 ≤ 601024 ∧ slots + 18 ≤ 7293034) (hR : Rel x u n) (hP : va_P D vwCl (lawW cI cL cM a o bb x f u) H) (hD : va_D A (lawW cI cL cM a o bb x f u)) (hS : va_S A s.heap H locs) (hl : lv_has ls 9 (lvL n sb o a bb)) (nx : NX p l e s m below meth c sb D cI cL cM A a o bb cells slots n Q) : W p l e room_1 s m #[Value.ref sb] below meth c H locs cells slots Q (F0 m 557 ls []) := by
  obtain ⟨⟨hnt, hx, hb, hml, hown⟩, hts, hEX, hN, hX, hbl, hbA, hA, hL⟩ := C
  have hE := hEX.1
  have hK := hE.1
  have i1 : vp_in (nI (4 * n) + 1) L := sc_in (k := 1) hL hn (by omega)
  have i2 : vp_in (nI (4 * n) + 2) L := sc_in (k := 2) hL hn (by omega)
  have i3 : vp_in (nI (4 * n) + 3) L := sc_in (k := 3) hL hn (by omega)
  refine lv_aload_n hx hb dL_law_557 rfl (lv_at hl 3 rfl) ?_
  refine lv_aload_n hx hb dL_law_558 rfl (lv_at hl 4 rfl) ?_
  refine lv_iload hx hb dL_law_559 (lv_at hl 0 rfl) ?_
  refine lv_iconst (v := 1) hx hb dL_law_561 (by decide) ?_
  refine lv_iadd hx hb dL_law_562 ?_
  refine va_sld hx hb hX hbl hbA hS i1 dL_law_563 ?_
  refine lv_aload_n hx hb dL_law_564 rfl (lv_at hl 1 rfl) ?_
  refine kW (As := [.ref (a 0), .int (xs (nI (4 * n) + 1).toNatClampNeg), .ref o]) (rest := []) ⟨hx, hb, hml, hown, hts⟩ (c_L_cut l hnt D cI cL cM _ sa a o x f (xs (nI (4 * n) + 1).toNatClampNeg) hR.tc) (vx_cwSW 3 hts gL_law_L_cut rfl rfl rfl (by decide +kernel) ⟨(Nat.le_of_ble_eq_true rfl), (Nat.le_of_ble_eq_true rfl)⟩) hEX hN hP hD hS hA (segI 0 36) seg36 (lawW_wrC cI cL cM a o bb x f u) (wrW_fst cI cL cM a o _ _ _ _) rfl hl.1 rfl (Nat.le_of_ble_eq_true rfl) dL_law_565 ⟨hcl.1, hcl.2⟩ (fun H locs hP hD hS => ?_)
  rw [lawW_wrP] at hP hD
  refine lv_topi (fun k9 hk9 => ?_)
  refine lv_istore (lv' := [(5, .int k9), (4, .int (nI (4 * n))), (3, .ref o), (2, .ref (bb 0)), (1, .ref (a 0)), (0, .ref sb)]) hx hb dL_law_568 hl (by decide) rfl (fun ls hl => ?_)
  refine lv_aload_n hx hb dL_law_570 rfl (lv_at hl 3 rfl) ?_
  refine lv_aload_n hx hb dL_law_571 rfl (lv_at hl 5 rfl) ?_
  refine lv_iload hx hb dL_law_572 (lv_at hl 1 rfl) ?_
  refine lv_iconst (v := 1) hx hb dL_law_574 (by decide) ?_
  refine lv_iadd hx hb dL_law_575 ?_
  refine va_sld hx hb hX hbl hbA hS i1 dL_law_576 ?_
  refine kI (rV (As := [.int (xs (nI (4 * n) + 1).toNatClampNeg)]) (rest := []) ⟨hx, hb, hml, hown, hts⟩ (c_X5_cut l D cI cL cM _ bb u (xs (nI (4 * n) + 1).toNatClampNeg) hR.sz) (cwV 1 hts gL_law_X5_cut rfl rfl rfl (by decide +kernel) ⟨(Nat.le_of_ble_eq_true rfl), (Nat.le_of_ble_eq_true rfl)⟩) hE hP hD (segI 36 13) seg13 (lawW_rfC cI cL cM a o bb _ _ _) rfl (rfW_0 cI bb _) rfl hl.1 rfl (Nat.le_of_ble_eq_true rfl) dL_law_577 ⟨hcl.1, hcl.2⟩) hP hD hS hA (is := (segI 36 13)) (lawW_rfC cI cL cM a o bb _ _ _) (rfW_fst cI bb _ _) (fun H locs hP hD hS => ?_)
  rw [lawW_rfP] at hP hD
  refine lv_topi (fun r9 hr9 => ?_)
  have hC9 := cl_cut hR (xs (nI (4 * n) + 1).toNatClampNeg)
  obtain ⟨k1, k2, k3⟩ := hC9
  refine lv_istore (lv' := [(6, .int r9), (5, .int k9), (4, .int (nI (4 * n))), (3, .ref o), (2, .ref (bb 0)), (1, .ref (a 0)), (0, .ref sb)]) hx hb dL_law_580 hl (by decide) rfl (fun ls hl => ?_)
  refine lv_aload_n hx hb dL_law_582 rfl (lv_at hl 4 rfl) ?_
  refine kI (rV (As := []) (rest := []) ⟨hx, hb, hml, hown, hts⟩ (c_X5_thrown l D cI cL cM _ bb _) (cwV 0 hts gL_law_X5_thrown rfl rfl rfl (by decide +kernel) ⟨(Nat.le_of_ble_eq_true rfl), (Nat.le_of_ble_eq_true rfl)⟩) hE hP hD (segI 36 13) seg13 (lawW_rfC cI cL cM a o bb _ _ _) rfl (rfW_0 cI bb _) rfl hl.1 rfl (Nat.le_of_ble_eq_true rfl) dL_law_583 ⟨hcl.1, hcl.2⟩) hP hD hS hA (is := (segI 36 13)) (lawW_rfC cI cL cM a o bb _ _ _) (rfW_fst cI bb _ _) (fun H locs hP hD hS => ?_)
  rw [lawW_rfP] at hP hD
  refine lv_topi (fun t9 ht9 => ?_)
  refine lv_iload hx hb dL_law_586 (lv_at hl 1 rfl) ?_
  refine lv_icmp_eq (tgt := 593) hx hb dL_law_588 (by decide) (fun _ => ?_) (fun h9 => absurd ((ht9.trans k1).trans hk9.symm) h9)
  refine lv_iload hx hb dL_law_593 (lv_at hl 1 rfl) ?_
  refine lv_if_ne (tgt := 610) hx hb dL_law_595 (by decide) (fun g9 => ?_) (fun g9 => ?_)
  · refine lv_goto (tgt := 1589) hx hb dL_law_610 (by decide) ?_
    exact nx _ _ _ _ _ _ k3 hP hD hS (lv_sub hl [2, 3, 4, 5, 6] rfl)
  · have g0 : cdCut (x_tx x) (xs (nI (4 * n) + 1).toNatClampNeg) = 0 := hk9.symm.trans g9
    refine lv_aload_n hx hb dL_law_598 rfl (lv_at hl 3 rfl) ?_
    refine lv_iconst (v := 0) hx hb dL_law_599 (by decide) ?_
    refine lldN hx hb hK hP 35 1 (lawW_35 cI cL cM a o bb _ _ _) rfl 0 (by omega) (Nat.le_of_ble_eq_true rfl) dL_law_600 ?_
    refine lv_topl (fun v9 hv9 => ?_)
    refine lv_iload hx hb dL_law_601 (lv_at hl 0 rfl) ?_
    refine lv_i2l hx hb dL_law_603 rfl ?_
    refine W.lcmp hx hb dL_law_604 ?_
    refine lv_if_eq (tgt := 610) hx hb dL_law_605 (by decide) (fun _ => ?_) (fun h9 => absurd ((lg_cmp_eq _ _).mpr (by rw [hv9, if_pos g0, pk_uLs, k2 g0, hr9])) h9)
    refine lv_goto (tgt := 1589) hx hb dL_law_610 (by decide) ?_
    exact nx _ _ _ _ _ _ k3 hP hD hS (lv_sub hl [2, 3, 4, 5, 6] rfl)
set_option maxHeartbeats 4000000 in
set_option maxRecDepth 100000 in
theorem lw_size (C : LCx p l s m c sb L xs D cI cL cM sa A) (hn : 4 * n + 4 ≤ L) (hcl : cells + 3 ≤ 601024 ∧ slots + 18 ≤ 7293034) (hR : Rel x u n) (hP : va_P D vwCl (lawW cI cL cM a o bb x f u) H) (hD : va_D A (lawW cI cL cM a o bb x f u)) (hS : va_S A s.heap H locs) (hl : lv_has ls 9 (lvL n sb o a bb)) (nx : NX p l e s m below meth c sb D cI cL cM A a o bb cells slots n Q) : W p l e room_1 s m #[Value.ref sb] below meth c H locs cells slots Q (F0 m 613 ls []) := by
  obtain ⟨⟨hnt, hx, hb, hml, hown⟩, hts, hEX, hN, hX, hbl, hbA, hA, hL⟩ := C
  have hE := hEX.1
  have hK := hE.1
  have i1 : vp_in (nI (4 * n) + 1) L := sc_in (k := 1) hL hn (by omega)
  have i2 : vp_in (nI (4 * n) + 2) L := sc_in (k := 2) hL hn (by omega)
  have i3 : vp_in (nI (4 * n) + 3) L := sc_in (k := 3) hL hn (by omega)
  refine W.widen (k := cells + 3) (n := slots + 18) (by omega) (by omega) ?_
  refine lv_aload_n hx hb dL_law_613 rfl (lv_at hl 3 rfl) ?_
  refine kI (rV (As := []) (rest := []) ⟨hx, hb, hml, hown, hts⟩ (c_X4_size l D cI cL cM _ a x  ) (cwV 0 hts gL_law_X4_size rfl rfl rfl (by decide +kernel) ⟨(Nat.le_of_ble_eq_true rfl), (Nat.le_of_ble_eq_true rfl)⟩) hE hP hD (segI 0 35) seg35 (lawW_mxC cI cL cM a o bb _ _ _) rfl (mxW_0 cI cL cM a _) rfl hl.1 rfl (Nat.le_of_ble_eq_true rfl) dL_law_614 ⟨hcl.1, hcl.2⟩) hP hD hS hA (is := (segI 0 35)) (lawW_mxC cI cL cM a o bb _ _ _) (mxW_fst cI cL cM a _ _) (fun H locs hP hD hS => ?_)
  rw [lawW_mxP] at hP hD
  refine lv_topi (fun p9 hp9 => ?_)
  refine lv_aload_n hx hb dL_law_617 rfl (lv_at hl 2 rfl) ?_
  refine kI (rV (As := []) (rest := [.int p9]) ⟨hx, hb, hml, hown, hts⟩ (c_X5_size l D cI cL cM _ bb u  ) (cwV 0 hts gL_law_X5_size rfl rfl rfl (by decide +kernel) ⟨(Nat.le_of_ble_eq_true rfl), (Nat.le_of_ble_eq_true rfl)⟩) hE hP hD (segI 36 13) seg13 (lawW_rfC cI cL cM a o bb _ _ _) rfl (rfW_0 cI bb _) rfl hl.1 rfl (Nat.le_of_ble_eq_true rfl) dL_law_618 ⟨hcl.1, hcl.2⟩) hP hD hS hA (is := (segI 36 13)) (lawW_rfC cI cL cM a o bb _ _ _) (rfW_fst cI bb _ _) (fun H locs hP hD hS => ?_)
  rw [lawW_rfP] at hP hD
  refine lv_topi (fun r9 hr9 => ?_)
  refine lv_icmp_eq (tgt := 1589) hx hb dL_law_621 (by decide) (fun _ => ?_) (fun h9 => absurd (by rw [hp9, hr9, hR.2.2.1.1.1]) h9)
  exact nx _ _ _ _ _ _ (Rel_t 0 hR) hP hD hS (lv_sub hl [0, 1, 2, 3, 4] rfl)
set_option maxHeartbeats 4000000 in
set_option maxRecDepth 100000 in
theorem lw_byteAt (C : LCx p l s m c sb L xs D cI cL cM sa A) (hn : 4 * n + 4 ≤ L) (hcl : cells + 3 ≤ 601024 ∧ slots + 18 ≤ 7293034) (hR : Rel x u n) (hP : va_P D vwCl (lawW cI cL cM a o bb x f u) H) (hD : va_D A (lawW cI cL cM a o bb x f u)) (hS : va_S A s.heap H locs) (hl : lv_has ls 9 (lvL n sb o a bb)) (nx : NX p l e s m below meth c sb D cI cL cM A a o bb cells slots n Q) : W p l e room_1 s m #[Value.ref sb] below meth c H locs cells slots Q (F0 m 626 ls []) := by
  obtain ⟨⟨hnt, hx, hb, hml, hown⟩, hts, hEX, hN, hX, hbl, hbA, hA, hL⟩ := C
  have hE := hEX.1
  have hK := hE.1
  have i1 : vp_in (nI (4 * n) + 1) L := sc_in (k := 1) hL hn (by omega)
  have i2 : vp_in (nI (4 * n) + 2) L := sc_in (k := 2) hL hn (by omega)
  have i3 : vp_in (nI (4 * n) + 3) L := sc_in (k := 3) hL hn (by omega)
  refine lv_aload_n hx hb dL_law_626 rfl (lv_at hl 3 rfl) ?_
  refine lv_aload_n hx hb dL_law_627 rfl (lv_at hl 4 rfl) ?_
  refine lv_iload hx hb dL_law_628 (lv_at hl 0 rfl) ?_
  refine lv_iconst (v := 1) hx hb dL_law_630 (by decide) ?_
  refine lv_iadd hx hb dL_law_631 ?_
  refine va_sld hx hb hX hbl hbA hS i1 dL_law_632 ?_
  refine lv_aload_n hx hb dL_law_633 rfl (lv_at hl 1 rfl) ?_
  refine kW (As := [.ref (a 0), .int (xs (nI (4 * n) + 1).toNatClampNeg), .ref o]) (rest := []) ⟨hx, hb, hml, hown, hts⟩ (c_L_byteAt l hnt D cI cL cM _ sa a o x f (xs (nI (4 * n) + 1).toNatClampNeg) hR.tc) (vx_cwSW 3 hts gL_law_L_byteAt rfl rfl rfl (by decide +kernel) ⟨(Nat.le_of_ble_eq_true rfl), (Nat.le_of_ble_eq_true rfl)⟩) hEX hN hP hD hS hA (segI 0 36) seg36 (lawW_wrC cI cL cM a o bb x f u) (wrW_fst cI cL cM a o _ _ _ _) rfl hl.1 rfl (Nat.le_of_ble_eq_true rfl) dL_law_634 ⟨hcl.1, hcl.2⟩ (fun H locs hP hD hS => ?_)
  rw [lawW_wrP] at hP hD
  refine lv_topi (fun k9 hk9 => ?_)
  refine lv_istore (lv' := [(5, .int k9), (4, .int (nI (4 * n))), (3, .ref o), (2, .ref (bb 0)), (1, .ref (a 0)), (0, .ref sb)]) hx hb dL_law_637 hl (by decide) rfl (fun ls hl => ?_)
  refine lv_aload_n hx hb dL_law_639 rfl (lv_at hl 3 rfl) ?_
  refine lv_aload_n hx hb dL_law_640 rfl (lv_at hl 5 rfl) ?_
  refine lv_iload hx hb dL_law_641 (lv_at hl 1 rfl) ?_
  refine lv_iconst (v := 1) hx hb dL_law_643 (by decide) ?_
  refine lv_iadd hx hb dL_law_644 ?_
  refine va_sld hx hb hX hbl hbA hS i1 dL_law_645 ?_
  refine kI (rV (As := [.int (xs (nI (4 * n) + 1).toNatClampNeg)]) (rest := []) ⟨hx, hb, hml, hown, hts⟩ (c_X5_byteAt l D cI cL cM _ bb u (xs (nI (4 * n) + 1).toNatClampNeg) hR.sz) (cwV 1 hts gL_law_X5_byteAt rfl rfl rfl (by decide +kernel) ⟨(Nat.le_of_ble_eq_true rfl), (Nat.le_of_ble_eq_true rfl)⟩) hE hP hD (segI 36 13) seg13 (lawW_rfC cI cL cM a o bb _ _ _) rfl (rfW_0 cI bb _) rfl hl.1 rfl (Nat.le_of_ble_eq_true rfl) dL_law_646 ⟨hcl.1, hcl.2⟩) hP hD hS hA (is := (segI 36 13)) (lawW_rfC cI cL cM a o bb _ _ _) (rfW_fst cI bb _ _) (fun H locs hP hD hS => ?_)
  rw [lawW_rfP] at hP hD
  refine lv_topi (fun r9 hr9 => ?_)
  have hC9 := cl_place hR hR.2.2.1.1 (Nat.le_trans hR.sz (Nat.le_of_ble_eq_true rfl)) (xs (nI (4 * n) + 1).toNatClampNeg)
  obtain ⟨k1, k2, k3⟩ := hC9
  refine lv_istore (lv' := [(6, .int r9), (5, .int k9), (4, .int (nI (4 * n))), (3, .ref o), (2, .ref (bb 0)), (1, .ref (a 0)), (0, .ref sb)]) hx hb dL_law_649 hl (by decide) rfl (fun ls hl => ?_)
  refine lv_aload_n hx hb dL_law_651 rfl (lv_at hl 4 rfl) ?_
  refine kI (rV (As := []) (rest := []) ⟨hx, hb, hml, hown, hts⟩ (c_X5_thrown l D cI cL cM _ bb _) (cwV 0 hts gL_law_X5_thrown rfl rfl rfl (by decide +kernel) ⟨(Nat.le_of_ble_eq_true rfl), (Nat.le_of_ble_eq_true rfl)⟩) hE hP hD (segI 36 13) seg13 (lawW_rfC cI cL cM a o bb _ _ _) rfl (rfW_0 cI bb _) rfl hl.1 rfl (Nat.le_of_ble_eq_true rfl) dL_law_652 ⟨hcl.1, hcl.2⟩) hP hD hS hA (is := (segI 36 13)) (lawW_rfC cI cL cM a o bb _ _ _) (rfW_fst cI bb _ _) (fun H locs hP hD hS => ?_)
  rw [lawW_rfP] at hP hD
  refine lv_topi (fun t9 ht9 => ?_)
  refine lv_iload hx hb dL_law_655 (lv_at hl 1 rfl) ?_
  refine lv_icmp_eq (tgt := 662) hx hb dL_law_657 (by decide) (fun _ => ?_) (fun h9 => absurd ((ht9.trans k1).trans hk9.symm) h9)
  refine lv_iload hx hb dL_law_662 (lv_at hl 1 rfl) ?_
  refine lv_if_ne (tgt := 679) hx hb dL_law_664 (by decide) (fun g9 => ?_) (fun g9 => ?_)
  · refine lv_goto (tgt := 1589) hx hb dL_law_679 (by decide) ?_
    exact nx _ _ _ _ _ _ k3 hP hD hS (lv_sub hl [2, 3, 4, 5, 6] rfl)
  · have g0 : cdPlc (x_tx x) (xs (nI (4 * n) + 1).toNatClampNeg) = 0 := hk9.symm.trans g9
    refine lv_aload_n hx hb dL_law_667 rfl (lv_at hl 3 rfl) ?_
    refine lv_iconst (v := 0) hx hb dL_law_668 (by decide) ?_
    refine lldN hx hb hK hP 35 1 (lawW_35 cI cL cM a o bb _ _ _) rfl 0 (by omega) (Nat.le_of_ble_eq_true rfl) dL_law_669 ?_
    refine lv_topl (fun v9 hv9 => ?_)
    refine lv_iload hx hb dL_law_670 (lv_at hl 0 rfl) ?_
    refine lv_i2l hx hb dL_law_672 rfl ?_
    refine W.lcmp hx hb dL_law_673 ?_
    refine lv_if_eq (tgt := 679) hx hb dL_law_674 (by decide) (fun _ => ?_) (fun h9 => absurd ((lg_cmp_eq _ _).mpr (by rw [hv9, if_pos g0, pk_uLs, k2 g0, hr9])) h9)
    refine lv_goto (tgt := 1589) hx hb dL_law_679 (by decide) ?_
    exact nx _ _ _ _ _ _ k3 hP hD hS (lv_sub hl [2, 3, 4, 5, 6] rfl)
set_option maxHeartbeats 4000000 in
set_option maxRecDepth 100000 in
theorem lw_reset (C : LCx p l s m c sb L xs D cI cL cM sa A) (hn : 4 * n + 4 ≤ L) (hcl : cells + 3 ≤ 601024 ∧ slots + 18 ≤ 7293034) (hR : Rel x u n) (hP : va_P D vwCl (lawW cI cL cM a o bb x f u) H) (hD : va_D A (lawW cI cL cM a o bb x f u)) (hS : va_S A s.heap H locs) (hl : lv_has ls 9 (lvL n sb o a bb)) (nx : NX p l e s m below meth c sb D cI cL cM A a o bb cells slots n Q) : W p l e room_1 s m #[Value.ref sb] below meth c H locs cells slots Q (F0 m 682 ls []) := by
  obtain ⟨⟨hnt, hx, hb, hml, hown⟩, hts, hEX, hN, hX, hbl, hbA, hA, hL⟩ := C
  have hE := hEX.1
  have hK := hE.1
  have i1 : vp_in (nI (4 * n) + 1) L := sc_in (k := 1) hL hn (by omega)
  have i2 : vp_in (nI (4 * n) + 2) L := sc_in (k := 2) hL hn (by omega)
  have i3 : vp_in (nI (4 * n) + 3) L := sc_in (k := 3) hL hn (by omega)
  refine W.widen (k := cells + 3) (n := slots + 18) (by omega) (by omega) ?_
  refine lv_aload_n hx hb dL_law_682 rfl (lv_at hl 3 rfl) ?_
  refine kI (rV (As := []) (rest := []) ⟨hx, hb, hml, hown, hts⟩ (c_X4_reset l D cI cL cM _ a x  hR.n6) (cwV 0 hts gL_law_X4_reset rfl rfl rfl (by decide +kernel) ⟨(Nat.le_of_ble_eq_true rfl), (Nat.le_of_ble_eq_true rfl)⟩) hE hP hD (segI 0 35) seg35 (lawW_mxC cI cL cM a o bb _ _ _) rfl (mxW_0 cI cL cM a _) rfl hl.1 rfl (Nat.le_of_ble_eq_true rfl) dL_law_683 ⟨hcl.1, hcl.2⟩) hP hD hS hA (is := (segI 0 35)) (lawW_mxC cI cL cM a o bb _ _ _) (mxW_fst cI cL cM a _ _) (fun H locs hP hD hS => ?_)
  rw [lawW_mxP] at hP hD
  refine lv_topi (fun p9 hp9 => ?_)
  refine lv_aload_n hx hb dL_law_686 rfl (lv_at hl 2 rfl) ?_
  refine kI (rV (As := []) (rest := [.int p9]) ⟨hx, hb, hml, hown, hts⟩ (c_X5_reset l D cI cL cM _ bb u  ) (cwV 0 hts gL_law_X5_reset rfl rfl rfl (by decide +kernel) ⟨(Nat.le_of_ble_eq_true rfl), (Nat.le_of_ble_eq_true rfl)⟩) hE hP hD (segI 36 13) seg13 (lawW_rfC cI cL cM a o bb _ _ _) rfl (rfW_0 cI bb _) rfl hl.1 rfl (Nat.le_of_ble_eq_true rfl) dL_law_687 ⟨hcl.1, hcl.2⟩) hP hD hS hA (is := (segI 36 13)) (lawW_rfC cI cL cM a o bb _ _ _) (rfW_fst cI bb _ _) (fun H locs hP hD hS => ?_)
  rw [lawW_rfP] at hP hD
  refine lv_topi (fun r9 hr9 => ?_)
  refine lv_icmp_eq (tgt := 1589) hx hb dL_law_690 (by decide) (fun _ => ?_) (fun h9 => absurd (by rw [hp9, hr9, (cl_reset hR).1]) h9)
  exact nx _ _ _ _ _ _ (cl_reset hR).2 hP hD hS (lv_sub hl [0, 1, 2, 3, 4] rfl)
set_option maxHeartbeats 4000000 in
set_option maxRecDepth 100000 in
theorem lw_mixed (C : LCx p l s m c sb L xs D cI cL cM sa A) (hn : 4 * n + 4 ≤ L) (hcl : cells + 3 ≤ 601024 ∧ slots + 18 ≤ 7293034) (hR : Rel x u n) (hP : va_P D vwCl (lawW cI cL cM a o bb x f u) H) (hD : va_D A (lawW cI cL cM a o bb x f u)) (hS : va_S A s.heap H locs) (hl : lv_has ls 9 (lvL n sb o a bb)) (nx : NX p l e s m below meth c sb D cI cL cM A a o bb cells slots n Q) : W p l e room_1 s m #[Value.ref sb] below meth c H locs cells slots Q (F0 m 736 ls []) := by
  obtain ⟨⟨hnt, hx, hb, hml, hown⟩, hts, hEX, hN, hX, hbl, hbA, hA, hL⟩ := C
  have hE := hEX.1
  have hK := hE.1
  have i1 : vp_in (nI (4 * n) + 1) L := sc_in (k := 1) hL hn (by omega)
  have i2 : vp_in (nI (4 * n) + 2) L := sc_in (k := 2) hL hn (by omega)
  have i3 : vp_in (nI (4 * n) + 3) L := sc_in (k := 3) hL hn (by omega)
  refine W.widen (k := cells + 3) (n := slots + 18) (by omega) (by omega) ?_
  refine lv_aload_n hx hb dL_law_736 rfl (lv_at hl 3 rfl) ?_
  refine kI (rV (As := []) (rest := []) ⟨hx, hb, hml, hown, hts⟩ (c_X4_mixed l D cI cL cM _ a x  hR.n6 (PV_ph hR.pv) (PV_pl hR.pv)) (cwV 0 hts gL_law_X4_mixed rfl rfl rfl (by decide +kernel) ⟨(Nat.le_of_ble_eq_true rfl), (Nat.le_of_ble_eq_true rfl)⟩) hE hP hD (segI 0 35) seg35 (lawW_mxC cI cL cM a o bb _ _ _) rfl (mxW_0 cI cL cM a _) rfl hl.1 rfl (Nat.le_of_ble_eq_true rfl) dL_law_737 ⟨hcl.1, hcl.2⟩) hP hD hS hA (is := (segI 0 35)) (lawW_mxC cI cL cM a o bb _ _ _) (mxW_fst cI cL cM a _ _) (fun H locs hP hD hS => ?_)
  rw [lawW_mxP] at hP hD
  refine lv_topi (fun p9 hp9 => ?_)
  refine lv_aload_n hx hb dL_law_740 rfl (lv_at hl 2 rfl) ?_
  refine kI (rV (As := []) (rest := [.int p9]) ⟨hx, hb, hml, hown, hts⟩ (c_X5_mixed l D cI cL cM _ bb u  (PV_RSf hR.pv) (PV_RT hR.pv)) (cwV 0 hts gL_law_X5_mixed rfl rfl rfl (by decide +kernel) ⟨(Nat.le_of_ble_eq_true rfl), (Nat.le_of_ble_eq_true rfl)⟩) hE hP hD (segI 36 13) seg13 (lawW_rfC cI cL cM a o bb _ _ _) rfl (rfW_0 cI bb _) rfl hl.1 rfl (Nat.le_of_ble_eq_true rfl) dL_law_741 ⟨hcl.1, hcl.2⟩) hP hD hS hA (is := (segI 36 13)) (lawW_rfC cI cL cM a o bb _ _ _) (rfW_fst cI bb _ _) (fun H locs hP hD hS => ?_)
  rw [lawW_rfP] at hP hD
  refine lv_topi (fun r9 hr9 => ?_)
  refine lv_icmp_eq (tgt := 1589) hx hb dL_law_744 (by decide) (fun _ => ?_) (fun h9 => absurd (by rw [hp9, hr9, (cl_observe hR 0).1]) h9)
  exact nx _ _ _ _ _ _ (Rel_t 0 hR) hP hD hS (lv_sub hl [0, 1, 2, 3, 4] rfl)
set_option maxHeartbeats 4000000 in
set_option maxRecDepth 100000 in
theorem lw_prediction (C : LCx p l s m c sb L xs D cI cL cM sa A) (hn : 4 * n + 4 ≤ L) (hcl : cells + 3 ≤ 601024 ∧ slots + 18 ≤ 7293034) (hR : Rel x u n) (hP : va_P D vwCl (lawW cI cL cM a o bb x f u) H) (hD : va_D A (lawW cI cL cM a o bb x f u)) (hS : va_S A s.heap H locs) (hl : lv_has ls 9 (lvL n sb o a bb)) (nx : NX p l e s m below meth c sb D cI cL cM A a o bb cells slots n Q) : W p l e room_1 s m #[Value.ref sb] below meth c H locs cells slots Q (F0 m 749 ls []) := by
  obtain ⟨⟨hnt, hx, hb, hml, hown⟩, hts, hEX, hN, hX, hbl, hbA, hA, hL⟩ := C
  have hE := hEX.1
  have hK := hE.1
  have i1 : vp_in (nI (4 * n) + 1) L := sc_in (k := 1) hL hn (by omega)
  have i2 : vp_in (nI (4 * n) + 2) L := sc_in (k := 2) hL hn (by omega)
  have i3 : vp_in (nI (4 * n) + 3) L := sc_in (k := 3) hL hn (by omega)
  refine lv_aload_n hx hb dL_law_749 rfl (lv_at hl 3 rfl) ?_
  refine lv_aload_n hx hb dL_law_750 rfl (lv_at hl 4 rfl) ?_
  refine lv_iload hx hb dL_law_751 (lv_at hl 0 rfl) ?_
  refine lv_iconst (v := 1) hx hb dL_law_753 (by decide) ?_
  refine lv_iadd hx hb dL_law_754 ?_
  refine va_sld hx hb hX hbl hbA hS i1 dL_law_755 ?_
  refine lv_aload_n hx hb dL_law_756 rfl (lv_at hl 1 rfl) ?_
  refine kW (As := [.ref (a 0), .int (xs (nI (4 * n) + 1).toNatClampNeg), .ref o]) (rest := []) ⟨hx, hb, hml, hown, hts⟩ (c_L_prediction l hnt D cI cL cM _ sa a o x f (xs (nI (4 * n) + 1).toNatClampNeg) hR.n6 (PV_pl hR.pv)) (vx_cwSW 3 hts gL_law_L_prediction rfl rfl rfl (by decide +kernel) ⟨(Nat.le_of_ble_eq_true rfl), (Nat.le_of_ble_eq_true rfl)⟩) hEX hN hP hD hS hA (segI 0 36) seg36 (lawW_wrC cI cL cM a o bb x f u) (wrW_fst cI cL cM a o _ _ _ _) rfl hl.1 rfl (Nat.le_of_ble_eq_true rfl) dL_law_757 ⟨hcl.1, hcl.2⟩ (fun H locs hP hD hS => ?_)
  rw [lawW_wrP] at hP hD
  refine lv_topi (fun k9 hk9 => ?_)
  refine lv_istore (lv' := [(5, .int k9), (4, .int (nI (4 * n))), (3, .ref o), (2, .ref (bb 0)), (1, .ref (a 0)), (0, .ref sb)]) hx hb dL_law_760 hl (by decide) rfl (fun ls hl => ?_)
  refine lv_aload_n hx hb dL_law_762 rfl (lv_at hl 3 rfl) ?_
  refine lv_aload_n hx hb dL_law_763 rfl (lv_at hl 5 rfl) ?_
  refine lv_iload hx hb dL_law_764 (lv_at hl 1 rfl) ?_
  refine lv_iconst (v := 1) hx hb dL_law_766 (by decide) ?_
  refine lv_iadd hx hb dL_law_767 ?_
  refine va_sld hx hb hX hbl hbA hS i1 dL_law_768 ?_
  refine kI (rV (As := [.int (xs (nI (4 * n) + 1).toNatClampNeg)]) (rest := []) ⟨hx, hb, hml, hown, hts⟩ (c_X5_prediction l D cI cL cM _ bb u (xs (nI (4 * n) + 1).toNatClampNeg) (PV_RSf hR.pv)) (cwV 1 hts gL_law_X5_prediction rfl rfl rfl (by decide +kernel) ⟨(Nat.le_of_ble_eq_true rfl), (Nat.le_of_ble_eq_true rfl)⟩) hE hP hD (segI 36 13) seg13 (lawW_rfC cI cL cM a o bb _ _ _) rfl (rfW_0 cI bb _) rfl hl.1 rfl (Nat.le_of_ble_eq_true rfl) dL_law_769 ⟨hcl.1, hcl.2⟩) hP hD hS hA (is := (segI 36 13)) (lawW_rfC cI cL cM a o bb _ _ _) (rfW_fst cI bb _ _) (fun H locs hP hD hS => ?_)
  rw [lawW_rfP] at hP hD
  refine lv_topi (fun r9 hr9 => ?_)
  have hC9 := cl_prediction hR (xs (nI (4 * n) + 1).toNatClampNeg)
  obtain ⟨k1, k2, k3⟩ := hC9
  refine lv_istore (lv' := [(6, .int r9), (5, .int k9), (4, .int (nI (4 * n))), (3, .ref o), (2, .ref (bb 0)), (1, .ref (a 0)), (0, .ref sb)]) hx hb dL_law_772 hl (by decide) rfl (fun ls hl => ?_)
  refine lv_aload_n hx hb dL_law_774 rfl (lv_at hl 4 rfl) ?_
  refine kI (rV (As := []) (rest := []) ⟨hx, hb, hml, hown, hts⟩ (c_X5_thrown l D cI cL cM _ bb _) (cwV 0 hts gL_law_X5_thrown rfl rfl rfl (by decide +kernel) ⟨(Nat.le_of_ble_eq_true rfl), (Nat.le_of_ble_eq_true rfl)⟩) hE hP hD (segI 36 13) seg13 (lawW_rfC cI cL cM a o bb _ _ _) rfl (rfW_0 cI bb _) rfl hl.1 rfl (Nat.le_of_ble_eq_true rfl) dL_law_775 ⟨hcl.1, hcl.2⟩) hP hD hS hA (is := (segI 36 13)) (lawW_rfC cI cL cM a o bb _ _ _) (rfW_fst cI bb _ _) (fun H locs hP hD hS => ?_)
  rw [lawW_rfP] at hP hD
  refine lv_topi (fun t9 ht9 => ?_)
  refine lv_iload hx hb dL_law_778 (lv_at hl 1 rfl) ?_
  refine lv_icmp_eq (tgt := 785) hx hb dL_law_780 (by decide) (fun _ => ?_) (fun h9 => absurd ((ht9.trans k1).trans hk9.symm) h9)
  refine lv_iload hx hb dL_law_785 (lv_at hl 1 rfl) ?_
  refine lv_if_ne (tgt := 802) hx hb dL_law_787 (by decide) (fun g9 => ?_) (fun g9 => ?_)
  · refine lv_goto (tgt := 1589) hx hb dL_law_802 (by decide) ?_
    exact nx _ _ _ _ _ _ k3 hP hD hS (lv_sub hl [2, 3, 4, 5, 6] rfl)
  · have g0 : cdMod x (xs (nI (4 * n) + 1).toNatClampNeg) = 0 := hk9.symm.trans g9
    refine lv_aload_n hx hb dL_law_790 rfl (lv_at hl 3 rfl) ?_
    refine lv_iconst (v := 0) hx hb dL_law_791 (by decide) ?_
    refine lldN hx hb hK hP 35 1 (lawW_35 cI cL cM a o bb _ _ _) rfl 0 (by omega) (Nat.le_of_ble_eq_true rfl) dL_law_792 ?_
    refine lv_topl (fun v9 hv9 => ?_)
    refine lv_iload hx hb dL_law_793 (lv_at hl 0 rfl) ?_
    refine lv_i2l hx hb dL_law_795 rfl ?_
    refine W.lcmp hx hb dL_law_796 ?_
    refine lv_if_eq (tgt := 802) hx hb dL_law_797 (by decide) (fun _ => ?_) (fun h9 => absurd ((lg_cmp_eq _ _).mpr (by rw [hv9, if_pos g0, pk_uLs, k2 g0, hr9])) h9)
    refine lv_goto (tgt := 1589) hx hb dL_law_802 (by decide) ?_
    exact nx _ _ _ _ _ _ k3 hP hD hS (lv_sub hl [2, 3, 4, 5, 6] rfl)
set_option maxHeartbeats 4000000 in
set_option maxRecDepth 100000 in
theorem lw_index (C : LCx p l s m c sb L xs D cI cL cM sa A) (hn : 4 * n + 4 ≤ L) (hcl : cells + 3 ≤ 601024 ∧ slots + 18 ≤ 7293034) (hR : Rel x u n) (hP : va_P D vwCl (lawW cI cL cM a o bb x f u) H) (hD : va_D A (lawW cI cL cM a o bb x f u)) (hS : va_S A s.heap H locs) (hl : lv_has ls 9 (lvL n sb o a bb)) (nx : NX p l e s m below meth c sb D cI cL cM A a o bb cells slots n Q) : W p l e room_1 s m #[Value.ref sb] below meth c H locs cells slots Q (F0 m 805 ls []) := by
  obtain ⟨⟨hnt, hx, hb, hml, hown⟩, hts, hEX, hN, hX, hbl, hbA, hA, hL⟩ := C
  have hE := hEX.1
  have hK := hE.1
  have i1 : vp_in (nI (4 * n) + 1) L := sc_in (k := 1) hL hn (by omega)
  have i2 : vp_in (nI (4 * n) + 2) L := sc_in (k := 2) hL hn (by omega)
  have i3 : vp_in (nI (4 * n) + 3) L := sc_in (k := 3) hL hn (by omega)
  refine lv_aload_n hx hb dL_law_805 rfl (lv_at hl 3 rfl) ?_
  refine lv_aload_n hx hb dL_law_806 rfl (lv_at hl 4 rfl) ?_
  refine lv_iload hx hb dL_law_807 (lv_at hl 0 rfl) ?_
  refine lv_iconst (v := 1) hx hb dL_law_809 (by decide) ?_
  refine lv_iadd hx hb dL_law_810 ?_
  refine va_sld hx hb hX hbl hbA hS i1 dL_law_811 ?_
  refine lv_aload_n hx hb dL_law_812 rfl (lv_at hl 1 rfl) ?_
  refine kW (As := [.ref (a 0), .int (xs (nI (4 * n) + 1).toNatClampNeg), .ref o]) (rest := []) ⟨hx, hb, hml, hown, hts⟩ (c_L_index l hnt D cI cL cM _ sa a o x f (xs (nI (4 * n) + 1).toNatClampNeg) hR.n6) (vx_cwSW 3 hts gL_law_L_index rfl rfl rfl (by decide +kernel) ⟨(Nat.le_of_ble_eq_true rfl), (Nat.le_of_ble_eq_true rfl)⟩) hEX hN hP hD hS hA (segI 0 36) seg36 (lawW_wrC cI cL cM a o bb x f u) (wrW_fst cI cL cM a o _ _ _ _) rfl hl.1 rfl (Nat.le_of_ble_eq_true rfl) dL_law_813 ⟨hcl.1, hcl.2⟩ (fun H locs hP hD hS => ?_)
  rw [lawW_wrP] at hP hD
  refine lv_topi (fun k9 hk9 => ?_)
  refine lv_istore (lv' := [(5, .int k9), (4, .int (nI (4 * n))), (3, .ref o), (2, .ref (bb 0)), (1, .ref (a 0)), (0, .ref sb)]) hx hb dL_law_816 hl (by decide) rfl (fun ls hl => ?_)
  refine lv_aload_n hx hb dL_law_818 rfl (lv_at hl 3 rfl) ?_
  refine lv_aload_n hx hb dL_law_819 rfl (lv_at hl 5 rfl) ?_
  refine lv_iload hx hb dL_law_820 (lv_at hl 1 rfl) ?_
  refine lv_iconst (v := 1) hx hb dL_law_822 (by decide) ?_
  refine lv_iadd hx hb dL_law_823 ?_
  refine va_sld hx hb hX hbl hbA hS i1 dL_law_824 ?_
  refine kI (rV (As := [.int (xs (nI (4 * n) + 1).toNatClampNeg)]) (rest := []) ⟨hx, hb, hml, hown, hts⟩ (c_X5_index l D cI cL cM _ bb u (xs (nI (4 * n) + 1).toNatClampNeg) (PV_RSf hR.pv)) (cwV 1 hts gL_law_X5_index rfl rfl rfl (by decide +kernel) ⟨(Nat.le_of_ble_eq_true rfl), (Nat.le_of_ble_eq_true rfl)⟩) hE hP hD (segI 36 13) seg13 (lawW_rfC cI cL cM a o bb _ _ _) rfl (rfW_0 cI bb _) rfl hl.1 rfl (Nat.le_of_ble_eq_true rfl) dL_law_825 ⟨hcl.1, hcl.2⟩) hP hD hS hA (is := (segI 36 13)) (lawW_rfC cI cL cM a o bb _ _ _) (rfW_fst cI bb _ _) (fun H locs hP hD hS => ?_)
  rw [lawW_rfP] at hP hD
  refine lv_topi (fun r9 hr9 => ?_)
  have hC9 := cl_index hR (xs (nI (4 * n) + 1).toNatClampNeg)
  obtain ⟨k1, k2, k3⟩ := hC9
  refine lv_istore (lv' := [(6, .int r9), (5, .int k9), (4, .int (nI (4 * n))), (3, .ref o), (2, .ref (bb 0)), (1, .ref (a 0)), (0, .ref sb)]) hx hb dL_law_828 hl (by decide) rfl (fun ls hl => ?_)
  refine lv_aload_n hx hb dL_law_830 rfl (lv_at hl 4 rfl) ?_
  refine kI (rV (As := []) (rest := []) ⟨hx, hb, hml, hown, hts⟩ (c_X5_thrown l D cI cL cM _ bb _) (cwV 0 hts gL_law_X5_thrown rfl rfl rfl (by decide +kernel) ⟨(Nat.le_of_ble_eq_true rfl), (Nat.le_of_ble_eq_true rfl)⟩) hE hP hD (segI 36 13) seg13 (lawW_rfC cI cL cM a o bb _ _ _) rfl (rfW_0 cI bb _) rfl hl.1 rfl (Nat.le_of_ble_eq_true rfl) dL_law_831 ⟨hcl.1, hcl.2⟩) hP hD hS hA (is := (segI 36 13)) (lawW_rfC cI cL cM a o bb _ _ _) (rfW_fst cI bb _ _) (fun H locs hP hD hS => ?_)
  rw [lawW_rfP] at hP hD
  refine lv_topi (fun t9 ht9 => ?_)
  refine lv_iload hx hb dL_law_834 (lv_at hl 1 rfl) ?_
  refine lv_icmp_eq (tgt := 841) hx hb dL_law_836 (by decide) (fun _ => ?_) (fun h9 => absurd ((ht9.trans k1).trans hk9.symm) h9)
  refine lv_iload hx hb dL_law_841 (lv_at hl 1 rfl) ?_
  refine lv_if_ne (tgt := 858) hx hb dL_law_843 (by decide) (fun g9 => ?_) (fun g9 => ?_)
  · refine lv_goto (tgt := 1589) hx hb dL_law_858 (by decide) ?_
    exact nx _ _ _ _ _ _ k3 hP hD hS (lv_sub hl [2, 3, 4, 5, 6] rfl)
  · have g0 : cdMod x (xs (nI (4 * n) + 1).toNatClampNeg) = 0 := hk9.symm.trans g9
    refine lv_aload_n hx hb dL_law_846 rfl (lv_at hl 3 rfl) ?_
    refine lv_iconst (v := 0) hx hb dL_law_847 (by decide) ?_
    refine lldN hx hb hK hP 35 1 (lawW_35 cI cL cM a o bb _ _ _) rfl 0 (by omega) (Nat.le_of_ble_eq_true rfl) dL_law_848 ?_
    refine lv_topl (fun v9 hv9 => ?_)
    refine lv_iload hx hb dL_law_849 (lv_at hl 0 rfl) ?_
    refine lv_i2l hx hb dL_law_851 rfl ?_
    refine W.lcmp hx hb dL_law_852 ?_
    refine lv_if_eq (tgt := 858) hx hb dL_law_853 (by decide) (fun _ => ?_) (fun h9 => absurd ((lg_cmp_eq _ _).mpr (by rw [hv9, if_pos g0, pk_uLs, k2 g0, hr9])) h9)
    refine lv_goto (tgt := 1589) hx hb dL_law_858 (by decide) ?_
    exact nx _ _ _ _ _ _ k3 hP hD hS (lv_sub hl [2, 3, 4, 5, 6] rfl)
set_option maxHeartbeats 4000000 in
set_option maxRecDepth 100000 in
theorem lw_counter (C : LCx p l s m c sb L xs D cI cL cM sa A) (hn : 4 * n + 4 ≤ L) (hcl : cells + 3 ≤ 601024 ∧ slots + 18 ≤ 7293034) (hR : Rel x u n) (hP : va_P D vwCl (lawW cI cL cM a o bb x f u) H) (hD : va_D A (lawW cI cL cM a o bb x f u)) (hS : va_S A s.heap H locs) (hl : lv_has ls 9 (lvL n sb o a bb)) (nx : NX p l e s m below meth c sb D cI cL cM A a o bb cells slots n Q) : W p l e room_1 s m #[Value.ref sb] below meth c H locs cells slots Q (F0 m 861 ls []) := by
  obtain ⟨⟨hnt, hx, hb, hml, hown⟩, hts, hEX, hN, hX, hbl, hbA, hA, hL⟩ := C
  have hE := hEX.1
  have hK := hE.1
  have i1 : vp_in (nI (4 * n) + 1) L := sc_in (k := 1) hL hn (by omega)
  have i2 : vp_in (nI (4 * n) + 2) L := sc_in (k := 2) hL hn (by omega)
  have i3 : vp_in (nI (4 * n) + 3) L := sc_in (k := 3) hL hn (by omega)
  refine lv_aload_n hx hb dL_law_861 rfl (lv_at hl 3 rfl) ?_
  refine lv_aload_n hx hb dL_law_862 rfl (lv_at hl 4 rfl) ?_
  refine lv_iload hx hb dL_law_863 (lv_at hl 0 rfl) ?_
  refine lv_iconst (v := 1) hx hb dL_law_865 (by decide) ?_
  refine lv_iadd hx hb dL_law_866 ?_
  refine va_sld hx hb hX hbl hbA hS i1 dL_law_867 ?_
  refine lv_aload_n hx hb dL_law_868 rfl (lv_at hl 4 rfl) ?_
  refine lv_iload hx hb dL_law_869 (lv_at hl 0 rfl) ?_
  refine lv_iconst (v := 2) hx hb dL_law_871 (by decide) ?_
  refine lv_iadd hx hb dL_law_872 ?_
  refine va_sld hx hb hX hbl hbA hS i2 dL_law_873 ?_
  refine lv_aload_n hx hb dL_law_874 rfl (lv_at hl 1 rfl) ?_
  refine kW (As := [.ref (a 0), .int (xs (nI (4 * n) + 1).toNatClampNeg), .int (xs (nI (4 * n) + 2).toNatClampNeg), .ref o]) (rest := []) ⟨hx, hb, hml, hown, hts⟩ (c_L_counter l hnt D cI cL cM _ sa a o x f (xs (nI (4 * n) + 1).toNatClampNeg) (xs (nI (4 * n) + 2).toNatClampNeg) hR.n6 (PV_ts hR.pv)) (vx_cwSW 4 hts gL_law_L_counter rfl rfl rfl (by decide +kernel) ⟨(Nat.le_of_ble_eq_true rfl), (Nat.le_of_ble_eq_true rfl)⟩) hEX hN hP hD hS hA (segI 0 36) seg36 (lawW_wrC cI cL cM a o bb x f u) (wrW_fst cI cL cM a o _ _ _ _) rfl hl.1 rfl (Nat.le_of_ble_eq_true rfl) dL_law_875 ⟨hcl.1, hcl.2⟩ (fun H locs hP hD hS => ?_)
  rw [lawW_wrP] at hP hD
  refine lv_topi (fun k9 hk9 => ?_)
  refine lv_istore (lv' := [(5, .int k9), (4, .int (nI (4 * n))), (3, .ref o), (2, .ref (bb 0)), (1, .ref (a 0)), (0, .ref sb)]) hx hb dL_law_878 hl (by decide) rfl (fun ls hl => ?_)
  refine lv_aload_n hx hb dL_law_880 rfl (lv_at hl 3 rfl) ?_
  refine lv_aload_n hx hb dL_law_881 rfl (lv_at hl 5 rfl) ?_
  refine lv_iload hx hb dL_law_882 (lv_at hl 1 rfl) ?_
  refine lv_iconst (v := 1) hx hb dL_law_884 (by decide) ?_
  refine lv_iadd hx hb dL_law_885 ?_
  refine va_sld hx hb hX hbl hbA hS i1 dL_law_886 ?_
  refine lv_aload_n hx hb dL_law_887 rfl (lv_at hl 5 rfl) ?_
  refine lv_iload hx hb dL_law_888 (lv_at hl 1 rfl) ?_
  refine lv_iconst (v := 2) hx hb dL_law_890 (by decide) ?_
  refine lv_iadd hx hb dL_law_891 ?_
  refine va_sld hx hb hX hbl hbA hS i2 dL_law_892 ?_
  refine kI (rV (As := [.int (xs (nI (4 * n) + 1).toNatClampNeg), .int (xs (nI (4 * n) + 2).toNatClampNeg)]) (rest := []) ⟨hx, hb, hml, hown, hts⟩ (c_X5_counter l D cI cL cM _ bb u (xs (nI (4 * n) + 1).toNatClampNeg) (xs (nI (4 * n) + 2).toNatClampNeg) (PV_RSf hR.pv) (PV_LGB hR.pv)) (cwV 2 hts gL_law_X5_counter rfl rfl rfl (by decide +kernel) ⟨(Nat.le_of_ble_eq_true rfl), (Nat.le_of_ble_eq_true rfl)⟩) hE hP hD (segI 36 13) seg13 (lawW_rfC cI cL cM a o bb _ _ _) rfl (rfW_0 cI bb _) rfl hl.1 rfl (Nat.le_of_ble_eq_true rfl) dL_law_893 ⟨hcl.1, hcl.2⟩) hP hD hS hA (is := (segI 36 13)) (lawW_rfC cI cL cM a o bb _ _ _) (rfW_fst cI bb _ _) (fun H locs hP hD hS => ?_)
  rw [lawW_rfP] at hP hD
  refine lv_topi (fun r9 hr9 => ?_)
  have hC9 := cl_counter hR (xs (nI (4 * n) + 1).toNatClampNeg) (xs (nI (4 * n) + 2).toNatClampNeg)
  obtain ⟨k1, k2, k3⟩ := hC9
  refine lv_istore (lv' := [(6, .int r9), (5, .int k9), (4, .int (nI (4 * n))), (3, .ref o), (2, .ref (bb 0)), (1, .ref (a 0)), (0, .ref sb)]) hx hb dL_law_896 hl (by decide) rfl (fun ls hl => ?_)
  refine lv_aload_n hx hb dL_law_898 rfl (lv_at hl 4 rfl) ?_
  refine kI (rV (As := []) (rest := []) ⟨hx, hb, hml, hown, hts⟩ (c_X5_thrown l D cI cL cM _ bb _) (cwV 0 hts gL_law_X5_thrown rfl rfl rfl (by decide +kernel) ⟨(Nat.le_of_ble_eq_true rfl), (Nat.le_of_ble_eq_true rfl)⟩) hE hP hD (segI 36 13) seg13 (lawW_rfC cI cL cM a o bb _ _ _) rfl (rfW_0 cI bb _) rfl hl.1 rfl (Nat.le_of_ble_eq_true rfl) dL_law_899 ⟨hcl.1, hcl.2⟩) hP hD hS hA (is := (segI 36 13)) (lawW_rfC cI cL cM a o bb _ _ _) (rfW_fst cI bb _ _) (fun H locs hP hD hS => ?_)
  rw [lawW_rfP] at hP hD
  refine lv_topi (fun t9 ht9 => ?_)
  refine lv_iload hx hb dL_law_902 (lv_at hl 1 rfl) ?_
  refine lv_icmp_eq (tgt := 909) hx hb dL_law_904 (by decide) (fun _ => ?_) (fun h9 => absurd ((ht9.trans k1).trans hk9.symm) h9)
  refine lv_iload hx hb dL_law_909 (lv_at hl 1 rfl) ?_
  refine lv_if_ne (tgt := 926) hx hb dL_law_911 (by decide) (fun g9 => ?_) (fun g9 => ?_)
  · refine lv_goto (tgt := 1589) hx hb dL_law_926 (by decide) ?_
    exact nx _ _ _ _ _ _ k3 hP hD hS (lv_sub hl [2, 3, 4, 5, 6] rfl)
  · have g0 : cdCnt x (xs (nI (4 * n) + 1).toNatClampNeg) (xs (nI (4 * n) + 2).toNatClampNeg) = 0 := hk9.symm.trans g9
    refine lv_aload_n hx hb dL_law_914 rfl (lv_at hl 3 rfl) ?_
    refine lv_iconst (v := 0) hx hb dL_law_915 (by decide) ?_
    refine lldN hx hb hK hP 35 1 (lawW_35 cI cL cM a o bb _ _ _) rfl 0 (by omega) (Nat.le_of_ble_eq_true rfl) dL_law_916 ?_
    refine lv_topl (fun v9 hv9 => ?_)
    refine lv_iload hx hb dL_law_917 (lv_at hl 0 rfl) ?_
    refine lv_i2l hx hb dL_law_919 rfl ?_
    refine W.lcmp hx hb dL_law_920 ?_
    refine lv_if_eq (tgt := 926) hx hb dL_law_921 (by decide) (fun _ => ?_) (fun h9 => absurd ((lg_cmp_eq _ _).mpr (by rw [hv9, if_pos g0, pk_uLs, k2 g0, hr9])) h9)
    refine lv_goto (tgt := 1589) hx hb dL_law_926 (by decide) ?_
    exact nx _ _ _ _ _ _ k3 hP hD hS (lv_sub hl [2, 3, 4, 5, 6] rfl)
set_option maxHeartbeats 4000000 in
set_option maxRecDepth 100000 in
theorem lw_weight (C : LCx p l s m c sb L xs D cI cL cM sa A) (hn : 4 * n + 4 ≤ L) (hcl : cells + 3 ≤ 601024 ∧ slots + 18 ≤ 7293034) (hR : Rel x u n) (hP : va_P D vwCl (lawW cI cL cM a o bb x f u) H) (hD : va_D A (lawW cI cL cM a o bb x f u)) (hS : va_S A s.heap H locs) (hl : lv_has ls 9 (lvL n sb o a bb)) (nx : NX p l e s m below meth c sb D cI cL cM A a o bb cells slots n Q) : W p l e room_1 s m #[Value.ref sb] below meth c H locs cells slots Q (F0 m 929 ls []) := by
  obtain ⟨⟨hnt, hx, hb, hml, hown⟩, hts, hEX, hN, hX, hbl, hbA, hA, hL⟩ := C
  have hE := hEX.1
  have hK := hE.1
  have i1 : vp_in (nI (4 * n) + 1) L := sc_in (k := 1) hL hn (by omega)
  have i2 : vp_in (nI (4 * n) + 2) L := sc_in (k := 2) hL hn (by omega)
  have i3 : vp_in (nI (4 * n) + 3) L := sc_in (k := 3) hL hn (by omega)
  refine lv_aload_n hx hb dL_law_929 rfl (lv_at hl 3 rfl) ?_
  refine lv_aload_n hx hb dL_law_930 rfl (lv_at hl 4 rfl) ?_
  refine lv_iload hx hb dL_law_931 (lv_at hl 0 rfl) ?_
  refine lv_iconst (v := 1) hx hb dL_law_933 (by decide) ?_
  refine lv_iadd hx hb dL_law_934 ?_
  refine va_sld hx hb hX hbl hbA hS i1 dL_law_935 ?_
  refine lv_aload_n hx hb dL_law_936 rfl (lv_at hl 4 rfl) ?_
  refine lv_iload hx hb dL_law_937 (lv_at hl 0 rfl) ?_
  refine lv_iconst (v := 2) hx hb dL_law_939 (by decide) ?_
  refine lv_iadd hx hb dL_law_940 ?_
  refine va_sld hx hb hX hbl hbA hS i2 dL_law_941 ?_
  refine lv_aload_n hx hb dL_law_942 rfl (lv_at hl 1 rfl) ?_
  refine kW (As := [.ref (a 0), .int (xs (nI (4 * n) + 1).toNatClampNeg), .int (xs (nI (4 * n) + 2).toNatClampNeg), .ref o]) (rest := []) ⟨hx, hb, hml, hown, hts⟩ (c_L_weight l hnt D cI cL cM _ sa a o x f (xs (nI (4 * n) + 1).toNatClampNeg) (xs (nI (4 * n) + 2).toNatClampNeg) hR.n6) (vx_cwSW 4 hts gL_law_L_weight rfl rfl rfl (by decide +kernel) ⟨(Nat.le_of_ble_eq_true rfl), (Nat.le_of_ble_eq_true rfl)⟩) hEX hN hP hD hS hA (segI 0 36) seg36 (lawW_wrC cI cL cM a o bb x f u) (wrW_fst cI cL cM a o _ _ _ _) rfl hl.1 rfl (Nat.le_of_ble_eq_true rfl) dL_law_943 ⟨hcl.1, hcl.2⟩ (fun H locs hP hD hS => ?_)
  rw [lawW_wrP] at hP hD
  refine lv_topi (fun k9 hk9 => ?_)
  refine lv_istore (lv' := [(5, .int k9), (4, .int (nI (4 * n))), (3, .ref o), (2, .ref (bb 0)), (1, .ref (a 0)), (0, .ref sb)]) hx hb dL_law_946 hl (by decide) rfl (fun ls hl => ?_)
  refine lv_aload_n hx hb dL_law_948 rfl (lv_at hl 3 rfl) ?_
  refine lv_aload_n hx hb dL_law_949 rfl (lv_at hl 5 rfl) ?_
  refine lv_iload hx hb dL_law_950 (lv_at hl 1 rfl) ?_
  refine lv_iconst (v := 1) hx hb dL_law_952 (by decide) ?_
  refine lv_iadd hx hb dL_law_953 ?_
  refine va_sld hx hb hX hbl hbA hS i1 dL_law_954 ?_
  refine lv_aload_n hx hb dL_law_955 rfl (lv_at hl 5 rfl) ?_
  refine lv_iload hx hb dL_law_956 (lv_at hl 1 rfl) ?_
  refine lv_iconst (v := 2) hx hb dL_law_958 (by decide) ?_
  refine lv_iadd hx hb dL_law_959 ?_
  refine va_sld hx hb hX hbl hbA hS i2 dL_law_960 ?_
  refine kI (rV (As := [.int (xs (nI (4 * n) + 1).toNatClampNeg), .int (xs (nI (4 * n) + 2).toNatClampNeg)]) (rest := []) ⟨hx, hb, hml, hown, hts⟩ (c_X5_weight l D cI cL cM _ bb u (xs (nI (4 * n) + 1).toNatClampNeg) (xs (nI (4 * n) + 2).toNatClampNeg) (PV_RSf hR.pv)) (cwV 2 hts gL_law_X5_weight rfl rfl rfl (by decide +kernel) ⟨(Nat.le_of_ble_eq_true rfl), (Nat.le_of_ble_eq_true rfl)⟩) hE hP hD (segI 36 13) seg13 (lawW_rfC cI cL cM a o bb _ _ _) rfl (rfW_0 cI bb _) rfl hl.1 rfl (Nat.le_of_ble_eq_true rfl) dL_law_961 ⟨hcl.1, hcl.2⟩) hP hD hS hA (is := (segI 36 13)) (lawW_rfC cI cL cM a o bb _ _ _) (rfW_fst cI bb _ _) (fun H locs hP hD hS => ?_)
  rw [lawW_rfP] at hP hD
  refine lv_topi (fun r9 hr9 => ?_)
  have hC9 := cl_weight hR (xs (nI (4 * n) + 1).toNatClampNeg) (xs (nI (4 * n) + 2).toNatClampNeg)
  obtain ⟨k1, k2, k3⟩ := hC9
  refine lv_istore (lv' := [(6, .int r9), (5, .int k9), (4, .int (nI (4 * n))), (3, .ref o), (2, .ref (bb 0)), (1, .ref (a 0)), (0, .ref sb)]) hx hb dL_law_964 hl (by decide) rfl (fun ls hl => ?_)
  refine lv_aload_n hx hb dL_law_966 rfl (lv_at hl 4 rfl) ?_
  refine kI (rV (As := []) (rest := []) ⟨hx, hb, hml, hown, hts⟩ (c_X5_thrown l D cI cL cM _ bb _) (cwV 0 hts gL_law_X5_thrown rfl rfl rfl (by decide +kernel) ⟨(Nat.le_of_ble_eq_true rfl), (Nat.le_of_ble_eq_true rfl)⟩) hE hP hD (segI 36 13) seg13 (lawW_rfC cI cL cM a o bb _ _ _) rfl (rfW_0 cI bb _) rfl hl.1 rfl (Nat.le_of_ble_eq_true rfl) dL_law_967 ⟨hcl.1, hcl.2⟩) hP hD hS hA (is := (segI 36 13)) (lawW_rfC cI cL cM a o bb _ _ _) (rfW_fst cI bb _ _) (fun H locs hP hD hS => ?_)
  rw [lawW_rfP] at hP hD
  refine lv_topi (fun t9 ht9 => ?_)
  refine lv_iload hx hb dL_law_970 (lv_at hl 1 rfl) ?_
  refine lv_icmp_eq (tgt := 977) hx hb dL_law_972 (by decide) (fun _ => ?_) (fun h9 => absurd ((ht9.trans k1).trans hk9.symm) h9)
  refine lv_iload hx hb dL_law_977 (lv_at hl 1 rfl) ?_
  refine lv_if_ne (tgt := 994) hx hb dL_law_979 (by decide) (fun g9 => ?_) (fun g9 => ?_)
  · refine lv_goto (tgt := 1589) hx hb dL_law_994 (by decide) ?_
    exact nx _ _ _ _ _ _ k3 hP hD hS (lv_sub hl [2, 3, 4, 5, 6] rfl)
  · have g0 : cdWei x (xs (nI (4 * n) + 1).toNatClampNeg) (xs (nI (4 * n) + 2).toNatClampNeg) = 0 := hk9.symm.trans g9
    refine lv_aload_n hx hb dL_law_982 rfl (lv_at hl 3 rfl) ?_
    refine lv_iconst (v := 0) hx hb dL_law_983 (by decide) ?_
    refine lldN hx hb hK hP 35 1 (lawW_35 cI cL cM a o bb _ _ _) rfl 0 (by omega) (Nat.le_of_ble_eq_true rfl) dL_law_984 ?_
    refine lv_topl (fun v9 hv9 => ?_)
    refine lv_iload hx hb dL_law_985 (lv_at hl 0 rfl) ?_
    refine lv_i2l hx hb dL_law_987 rfl ?_
    refine W.lcmp hx hb dL_law_988 ?_
    refine lv_if_eq (tgt := 994) hx hb dL_law_989 (by decide) (fun _ => ?_) (fun h9 => absurd ((lg_cmp_eq _ _).mpr (by rw [hv9, if_pos g0, pk_uLs, k2 g0, hr9])) h9)
    refine lv_goto (tgt := 1589) hx hb dL_law_994 (by decide) ?_
    exact nx _ _ _ _ _ _ k3 hP hD hS (lv_sub hl [2, 3, 4, 5, 6] rfl)
set_option maxHeartbeats 4000000 in
set_option maxRecDepth 100000 in
theorem lw_leader (C : LCx p l s m c sb L xs D cI cL cM sa A) (hn : 4 * n + 4 ≤ L) (hcl : cells + 3 ≤ 601024 ∧ slots + 18 ≤ 7293034) (hR : Rel x u n) (hP : va_P D vwCl (lawW cI cL cM a o bb x f u) H) (hD : va_D A (lawW cI cL cM a o bb x f u)) (hS : va_S A s.heap H locs) (hl : lv_has ls 9 (lvL n sb o a bb)) (nx : NX p l e s m below meth c sb D cI cL cM A a o bb cells slots n Q) : W p l e room_1 s m #[Value.ref sb] below meth c H locs cells slots Q (F0 m 997 ls []) := by
  obtain ⟨⟨hnt, hx, hb, hml, hown⟩, hts, hEX, hN, hX, hbl, hbA, hA, hL⟩ := C
  have hE := hEX.1
  have hK := hE.1
  have i1 : vp_in (nI (4 * n) + 1) L := sc_in (k := 1) hL hn (by omega)
  have i2 : vp_in (nI (4 * n) + 2) L := sc_in (k := 2) hL hn (by omega)
  have i3 : vp_in (nI (4 * n) + 3) L := sc_in (k := 3) hL hn (by omega)
  refine W.widen (k := cells + 3) (n := slots + 18) (by omega) (by omega) ?_
  refine lv_aload_n hx hb dL_law_997 rfl (lv_at hl 3 rfl) ?_
  refine kI (rV (As := []) (rest := []) ⟨hx, hb, hml, hown, hts⟩ (c_X4_leader l D cI cL cM _ a x  hR.n6 (PV_ph hR.pv)) (cwV 0 hts gL_law_X4_leader rfl rfl rfl (by decide +kernel) ⟨(Nat.le_of_ble_eq_true rfl), (Nat.le_of_ble_eq_true rfl)⟩) hE hP hD (segI 0 35) seg35 (lawW_mxC cI cL cM a o bb _ _ _) rfl (mxW_0 cI cL cM a _) rfl hl.1 rfl (Nat.le_of_ble_eq_true rfl) dL_law_998 ⟨hcl.1, hcl.2⟩) hP hD hS hA (is := (segI 0 35)) (lawW_mxC cI cL cM a o bb _ _ _) (mxW_fst cI cL cM a _ _) (fun H locs hP hD hS => ?_)
  rw [lawW_mxP] at hP hD
  refine lv_topi (fun p9 hp9 => ?_)
  refine lv_aload_n hx hb dL_law_1001 rfl (lv_at hl 2 rfl) ?_
  refine kI (rV (As := []) (rest := [.int p9]) ⟨hx, hb, hml, hown, hts⟩ (c_X5_leader l D cI cL cM _ bb u  (PV_RSf hR.pv)) (cwV 0 hts gL_law_X5_leader rfl rfl rfl (by decide +kernel) ⟨(Nat.le_of_ble_eq_true rfl), (Nat.le_of_ble_eq_true rfl)⟩) hE hP hD (segI 36 13) seg13 (lawW_rfC cI cL cM a o bb _ _ _) rfl (rfW_0 cI bb _) rfl hl.1 rfl (Nat.le_of_ble_eq_true rfl) dL_law_1002 ⟨hcl.1, hcl.2⟩) hP hD hS hA (is := (segI 36 13)) (lawW_rfC cI cL cM a o bb _ _ _) (rfW_fst cI bb _ _) (fun H locs hP hD hS => ?_)
  rw [lawW_rfP] at hP hD
  refine lv_topi (fun r9 hr9 => ?_)
  refine lv_icmp_eq (tgt := 1589) hx hb dL_law_1005 (by decide) (fun _ => ?_) (fun h9 => absurd (by rw [hp9, hr9, leader_R hR.pv]) h9)
  exact nx _ _ _ _ _ _ (Rel_t 0 hR) hP hD hS (lv_sub hl [0, 1, 2, 3, 4] rfl)
set_option maxHeartbeats 4000000 in
set_option maxRecDepth 100000 in
theorem lw_collisions (C : LCx p l s m c sb L xs D cI cL cM sa A) (hn : 4 * n + 4 ≤ L) (hcl : cells + 3 ≤ 601024 ∧ slots + 18 ≤ 7293034) (hR : Rel x u n) (hP : va_P D vwCl (lawW cI cL cM a o bb x f u) H) (hD : va_D A (lawW cI cL cM a o bb x f u)) (hS : va_S A s.heap H locs) (hl : lv_has ls 9 (lvL n sb o a bb)) (nx : NX p l e s m below meth c sb D cI cL cM A a o bb cells slots n Q) : W p l e room_1 s m #[Value.ref sb] below meth c H locs cells slots Q (F0 m 1010 ls []) := by
  obtain ⟨⟨hnt, hx, hb, hml, hown⟩, hts, hEX, hN, hX, hbl, hbA, hA, hL⟩ := C
  have hE := hEX.1
  have hK := hE.1
  have i1 : vp_in (nI (4 * n) + 1) L := sc_in (k := 1) hL hn (by omega)
  have i2 : vp_in (nI (4 * n) + 2) L := sc_in (k := 2) hL hn (by omega)
  have i3 : vp_in (nI (4 * n) + 3) L := sc_in (k := 3) hL hn (by omega)
  refine lv_aload_n hx hb dL_law_1010 rfl (lv_at hl 3 rfl) ?_
  refine lv_aload_n hx hb dL_law_1011 rfl (lv_at hl 4 rfl) ?_
  refine lv_iload hx hb dL_law_1012 (lv_at hl 0 rfl) ?_
  refine lv_iconst (v := 1) hx hb dL_law_1014 (by decide) ?_
  refine lv_iadd hx hb dL_law_1015 ?_
  refine va_sld hx hb hX hbl hbA hS i1 dL_law_1016 ?_
  refine lv_aload_n hx hb dL_law_1017 rfl (lv_at hl 1 rfl) ?_
  refine kW (As := [.ref (a 0), .int (xs (nI (4 * n) + 1).toNatClampNeg), .ref o]) (rest := []) ⟨hx, hb, hml, hown, hts⟩ (c_L_collisions l hnt D cI cL cM _ sa a o x f (xs (nI (4 * n) + 1).toNatClampNeg) hR.n6) (vx_cwSW 3 hts gL_law_L_collisions rfl rfl rfl (by decide +kernel) ⟨(Nat.le_of_ble_eq_true rfl), (Nat.le_of_ble_eq_true rfl)⟩) hEX hN hP hD hS hA (segI 0 36) seg36 (lawW_wrC cI cL cM a o bb x f u) (wrW_fst cI cL cM a o _ _ _ _) rfl hl.1 rfl (Nat.le_of_ble_eq_true rfl) dL_law_1018 ⟨hcl.1, hcl.2⟩ (fun H locs hP hD hS => ?_)
  rw [lawW_wrP] at hP hD
  refine lv_topi (fun k9 hk9 => ?_)
  refine lv_istore (lv' := [(5, .int k9), (4, .int (nI (4 * n))), (3, .ref o), (2, .ref (bb 0)), (1, .ref (a 0)), (0, .ref sb)]) hx hb dL_law_1021 hl (by decide) rfl (fun ls hl => ?_)
  refine lv_aload_n hx hb dL_law_1023 rfl (lv_at hl 3 rfl) ?_
  refine lv_aload_n hx hb dL_law_1024 rfl (lv_at hl 5 rfl) ?_
  refine lv_iload hx hb dL_law_1025 (lv_at hl 1 rfl) ?_
  refine lv_iconst (v := 1) hx hb dL_law_1027 (by decide) ?_
  refine lv_iadd hx hb dL_law_1028 ?_
  refine va_sld hx hb hX hbl hbA hS i1 dL_law_1029 ?_
  refine kI (rV (As := [.int (xs (nI (4 * n) + 1).toNatClampNeg)]) (rest := []) ⟨hx, hb, hml, hown, hts⟩ (c_X5_collisions l D cI cL cM _ bb u (xs (nI (4 * n) + 1).toNatClampNeg) (PV_RSf hR.pv)) (cwV 1 hts gL_law_X5_collisions rfl rfl rfl (by decide +kernel) ⟨(Nat.le_of_ble_eq_true rfl), (Nat.le_of_ble_eq_true rfl)⟩) hE hP hD (segI 36 13) seg13 (lawW_rfC cI cL cM a o bb _ _ _) rfl (rfW_0 cI bb _) rfl hl.1 rfl (Nat.le_of_ble_eq_true rfl) dL_law_1030 ⟨hcl.1, hcl.2⟩) hP hD hS hA (is := (segI 36 13)) (lawW_rfC cI cL cM a o bb _ _ _) (rfW_fst cI bb _ _) (fun H locs hP hD hS => ?_)
  rw [lawW_rfP] at hP hD
  refine lv_topi (fun r9 hr9 => ?_)
  have hC9 := cl_collisions hR (xs (nI (4 * n) + 1).toNatClampNeg)
  obtain ⟨k1, k2, k3⟩ := hC9
  refine lv_istore (lv' := [(6, .int r9), (5, .int k9), (4, .int (nI (4 * n))), (3, .ref o), (2, .ref (bb 0)), (1, .ref (a 0)), (0, .ref sb)]) hx hb dL_law_1033 hl (by decide) rfl (fun ls hl => ?_)
  refine lv_aload_n hx hb dL_law_1035 rfl (lv_at hl 4 rfl) ?_
  refine kI (rV (As := []) (rest := []) ⟨hx, hb, hml, hown, hts⟩ (c_X5_thrown l D cI cL cM _ bb _) (cwV 0 hts gL_law_X5_thrown rfl rfl rfl (by decide +kernel) ⟨(Nat.le_of_ble_eq_true rfl), (Nat.le_of_ble_eq_true rfl)⟩) hE hP hD (segI 36 13) seg13 (lawW_rfC cI cL cM a o bb _ _ _) rfl (rfW_0 cI bb _) rfl hl.1 rfl (Nat.le_of_ble_eq_true rfl) dL_law_1036 ⟨hcl.1, hcl.2⟩) hP hD hS hA (is := (segI 36 13)) (lawW_rfC cI cL cM a o bb _ _ _) (rfW_fst cI bb _ _) (fun H locs hP hD hS => ?_)
  rw [lawW_rfP] at hP hD
  refine lv_topi (fun t9 ht9 => ?_)
  refine lv_iload hx hb dL_law_1039 (lv_at hl 1 rfl) ?_
  refine lv_icmp_eq (tgt := 1046) hx hb dL_law_1041 (by decide) (fun _ => ?_) (fun h9 => absurd ((ht9.trans k1).trans hk9.symm) h9)
  refine lv_iload hx hb dL_law_1046 (lv_at hl 1 rfl) ?_
  refine lv_if_ne (tgt := 1063) hx hb dL_law_1048 (by decide) (fun g9 => ?_) (fun g9 => ?_)
  · refine lv_goto (tgt := 1589) hx hb dL_law_1063 (by decide) ?_
    exact nx _ _ _ _ _ _ k3 hP hD hS (lv_sub hl [2, 3, 4, 5, 6] rfl)
  · have g0 : cdMod x (xs (nI (4 * n) + 1).toNatClampNeg) = 0 := hk9.symm.trans g9
    refine lv_aload_n hx hb dL_law_1051 rfl (lv_at hl 3 rfl) ?_
    refine lv_iconst (v := 0) hx hb dL_law_1052 (by decide) ?_
    refine lldN hx hb hK hP 35 1 (lawW_35 cI cL cM a o bb _ _ _) rfl 0 (by omega) (Nat.le_of_ble_eq_true rfl) dL_law_1053 ?_
    refine lv_topl (fun v9 hv9 => ?_)
    refine lv_iload hx hb dL_law_1054 (lv_at hl 0 rfl) ?_
    refine lv_i2l hx hb dL_law_1056 rfl ?_
    refine W.lcmp hx hb dL_law_1057 ?_
    refine lv_if_eq (tgt := 1063) hx hb dL_law_1058 (by decide) (fun _ => ?_) (fun h9 => absurd ((lg_cmp_eq _ _).mpr (by rw [hv9, if_pos g0, pk_uLs, k2 g0, hr9])) h9)
    refine lv_goto (tgt := 1589) hx hb dL_law_1063 (by decide) ?_
    exact nx _ _ _ _ _ _ k3 hP hD hS (lv_sub hl [2, 3, 4, 5, 6] rfl)
set_option maxHeartbeats 4000000 in
set_option maxRecDepth 100000 in
theorem lw_history (C : LCx p l s m c sb L xs D cI cL cM sa A) (hn : 4 * n + 4 ≤ L) (hcl : cells + 3 ≤ 601024 ∧ slots + 18 ≤ 7293034) (hR : Rel x u n) (hP : va_P D vwCl (lawW cI cL cM a o bb x f u) H) (hD : va_D A (lawW cI cL cM a o bb x f u)) (hS : va_S A s.heap H locs) (hl : lv_has ls 9 (lvL n sb o a bb)) (nx : NX p l e s m below meth c sb D cI cL cM A a o bb cells slots n Q) : W p l e room_1 s m #[Value.ref sb] below meth c H locs cells slots Q (F0 m 1066 ls []) := by
  obtain ⟨⟨hnt, hx, hb, hml, hown⟩, hts, hEX, hN, hX, hbl, hbA, hA, hL⟩ := C
  have hE := hEX.1
  have hK := hE.1
  have i1 : vp_in (nI (4 * n) + 1) L := sc_in (k := 1) hL hn (by omega)
  have i2 : vp_in (nI (4 * n) + 2) L := sc_in (k := 2) hL hn (by omega)
  have i3 : vp_in (nI (4 * n) + 3) L := sc_in (k := 3) hL hn (by omega)
  refine lv_aload_n hx hb dL_law_1066 rfl (lv_at hl 3 rfl) ?_
  refine lv_aload_n hx hb dL_law_1067 rfl (lv_at hl 4 rfl) ?_
  refine lv_iload hx hb dL_law_1068 (lv_at hl 0 rfl) ?_
  refine lv_iconst (v := 1) hx hb dL_law_1070 (by decide) ?_
  refine lv_iadd hx hb dL_law_1071 ?_
  refine va_sld hx hb hX hbl hbA hS i1 dL_law_1072 ?_
  refine lv_aload_n hx hb dL_law_1073 rfl (lv_at hl 1 rfl) ?_
  refine kW (As := [.ref (a 0), .int (xs (nI (4 * n) + 1).toNatClampNeg), .ref o]) (rest := []) ⟨hx, hb, hml, hown, hts⟩ (c_L_history l hnt D cI cL cM _ sa a o x f (xs (nI (4 * n) + 1).toNatClampNeg) ) (vx_cwSW 3 hts gL_law_L_history rfl rfl rfl (by decide +kernel) ⟨(Nat.le_of_ble_eq_true rfl), (Nat.le_of_ble_eq_true rfl)⟩) hEX hN hP hD hS hA (segI 0 36) seg36 (lawW_wrC cI cL cM a o bb x f u) (wrW_fst cI cL cM a o _ _ _ _) rfl hl.1 rfl (Nat.le_of_ble_eq_true rfl) dL_law_1074 ⟨hcl.1, hcl.2⟩ (fun H locs hP hD hS => ?_)
  rw [lawW_wrP] at hP hD
  refine lv_topi (fun k9 hk9 => ?_)
  refine lv_istore (lv' := [(5, .int k9), (4, .int (nI (4 * n))), (3, .ref o), (2, .ref (bb 0)), (1, .ref (a 0)), (0, .ref sb)]) hx hb dL_law_1077 hl (by decide) rfl (fun ls hl => ?_)
  refine lv_aload_n hx hb dL_law_1079 rfl (lv_at hl 3 rfl) ?_
  refine lv_aload_n hx hb dL_law_1080 rfl (lv_at hl 5 rfl) ?_
  refine lv_iload hx hb dL_law_1081 (lv_at hl 1 rfl) ?_
  refine lv_iconst (v := 1) hx hb dL_law_1083 (by decide) ?_
  refine lv_iadd hx hb dL_law_1084 ?_
  refine va_sld hx hb hX hbl hbA hS i1 dL_law_1085 ?_
  refine kI (rV (As := [.int (xs (nI (4 * n) + 1).toNatClampNeg)]) (rest := []) ⟨hx, hb, hml, hown, hts⟩ (c_X5_history l D cI cL cM _ bb u (xs (nI (4 * n) + 1).toNatClampNeg) ) (cwV 1 hts gL_law_X5_history rfl rfl rfl (by decide +kernel) ⟨(Nat.le_of_ble_eq_true rfl), (Nat.le_of_ble_eq_true rfl)⟩) hE hP hD (segI 36 13) seg13 (lawW_rfC cI cL cM a o bb _ _ _) rfl (rfW_0 cI bb _) rfl hl.1 rfl (Nat.le_of_ble_eq_true rfl) dL_law_1086 ⟨hcl.1, hcl.2⟩) hP hD hS hA (is := (segI 36 13)) (lawW_rfC cI cL cM a o bb _ _ _) (rfW_fst cI bb _ _) (fun H locs hP hD hS => ?_)
  rw [lawW_rfP] at hP hD
  refine lv_topi (fun r9 hr9 => ?_)
  have hC9 := cl_history hR (xs (nI (4 * n) + 1).toNatClampNeg)
  obtain ⟨k1, k2, k3⟩ := hC9
  refine lv_istore (lv' := [(6, .int r9), (5, .int k9), (4, .int (nI (4 * n))), (3, .ref o), (2, .ref (bb 0)), (1, .ref (a 0)), (0, .ref sb)]) hx hb dL_law_1089 hl (by decide) rfl (fun ls hl => ?_)
  refine lv_aload_n hx hb dL_law_1091 rfl (lv_at hl 4 rfl) ?_
  refine kI (rV (As := []) (rest := []) ⟨hx, hb, hml, hown, hts⟩ (c_X5_thrown l D cI cL cM _ bb _) (cwV 0 hts gL_law_X5_thrown rfl rfl rfl (by decide +kernel) ⟨(Nat.le_of_ble_eq_true rfl), (Nat.le_of_ble_eq_true rfl)⟩) hE hP hD (segI 36 13) seg13 (lawW_rfC cI cL cM a o bb _ _ _) rfl (rfW_0 cI bb _) rfl hl.1 rfl (Nat.le_of_ble_eq_true rfl) dL_law_1092 ⟨hcl.1, hcl.2⟩) hP hD hS hA (is := (segI 36 13)) (lawW_rfC cI cL cM a o bb _ _ _) (rfW_fst cI bb _ _) (fun H locs hP hD hS => ?_)
  rw [lawW_rfP] at hP hD
  refine lv_topi (fun t9 ht9 => ?_)
  refine lv_iload hx hb dL_law_1095 (lv_at hl 1 rfl) ?_
  refine lv_icmp_eq (tgt := 1102) hx hb dL_law_1097 (by decide) (fun _ => ?_) (fun h9 => absurd ((ht9.trans k1).trans hk9.symm) h9)
  refine lv_iload hx hb dL_law_1102 (lv_at hl 1 rfl) ?_
  refine lv_if_ne (tgt := 1119) hx hb dL_law_1104 (by decide) (fun g9 => ?_) (fun g9 => ?_)
  · refine lv_goto (tgt := 1589) hx hb dL_law_1119 (by decide) ?_
    exact nx _ _ _ _ _ _ k3 hP hD hS (lv_sub hl [2, 3, 4, 5, 6] rfl)
  · have g0 : cdHis (xs (nI (4 * n) + 1).toNatClampNeg) = 0 := hk9.symm.trans g9
    refine lv_aload_n hx hb dL_law_1107 rfl (lv_at hl 3 rfl) ?_
    refine lv_iconst (v := 0) hx hb dL_law_1108 (by decide) ?_
    refine lldN hx hb hK hP 35 1 (lawW_35 cI cL cM a o bb _ _ _) rfl 0 (by omega) (Nat.le_of_ble_eq_true rfl) dL_law_1109 ?_
    refine lv_topl (fun v9 hv9 => ?_)
    refine lv_iload hx hb dL_law_1110 (lv_at hl 0 rfl) ?_
    refine lv_i2l hx hb dL_law_1112 rfl ?_
    refine W.lcmp hx hb dL_law_1113 ?_
    refine lv_if_eq (tgt := 1119) hx hb dL_law_1114 (by decide) (fun _ => ?_) (fun h9 => absurd ((lg_cmp_eq _ _).mpr (by rw [hv9, if_pos g0, pk_uLs, k2 g0, hr9])) h9)
    refine lv_goto (tgt := 1589) hx hb dL_law_1119 (by decide) ?_
    exact nx _ _ _ _ _ _ k3 hP hD hS (lv_sub hl [2, 3, 4, 5, 6] rfl)
set_option maxHeartbeats 4000000 in
set_option maxRecDepth 100000 in
theorem lw_node (C : LCx p l s m c sb L xs D cI cL cM sa A) (hn : 4 * n + 4 ≤ L) (hcl : cells + 3 ≤ 601024 ∧ slots + 18 ≤ 7293034) (hR : Rel x u n) (hP : va_P D vwCl (lawW cI cL cM a o bb x f u) H) (hD : va_D A (lawW cI cL cM a o bb x f u)) (hS : va_S A s.heap H locs) (hl : lv_has ls 9 (lvL n sb o a bb)) (nx : NX p l e s m below meth c sb D cI cL cM A a o bb cells slots n Q) : W p l e room_1 s m #[Value.ref sb] below meth c H locs cells slots Q (F0 m 1122 ls []) := by
  obtain ⟨⟨hnt, hx, hb, hml, hown⟩, hts, hEX, hN, hX, hbl, hbA, hA, hL⟩ := C
  have hE := hEX.1
  have hK := hE.1
  have i1 : vp_in (nI (4 * n) + 1) L := sc_in (k := 1) hL hn (by omega)
  have i2 : vp_in (nI (4 * n) + 2) L := sc_in (k := 2) hL hn (by omega)
  have i3 : vp_in (nI (4 * n) + 3) L := sc_in (k := 3) hL hn (by omega)
  refine W.widen (k := cells + 3) (n := slots + 18) (by omega) (by omega) ?_
  refine lv_aload_n hx hb dL_law_1122 rfl (lv_at hl 3 rfl) ?_
  refine kI (rV (As := []) (rest := []) ⟨hx, hb, hml, hown, hts⟩ (c_X4_node l D cI cL cM _ a x  ) (cwV 0 hts gL_law_X4_node rfl rfl rfl (by decide +kernel) ⟨(Nat.le_of_ble_eq_true rfl), (Nat.le_of_ble_eq_true rfl)⟩) hE hP hD (segI 0 35) seg35 (lawW_mxC cI cL cM a o bb _ _ _) rfl (mxW_0 cI cL cM a _) rfl hl.1 rfl (Nat.le_of_ble_eq_true rfl) dL_law_1123 ⟨hcl.1, hcl.2⟩) hP hD hS hA (is := (segI 0 35)) (lawW_mxC cI cL cM a o bb _ _ _) (mxW_fst cI cL cM a _ _) (fun H locs hP hD hS => ?_)
  rw [lawW_mxP] at hP hD
  refine lv_topi (fun p9 hp9 => ?_)
  refine lv_aload_n hx hb dL_law_1126 rfl (lv_at hl 2 rfl) ?_
  refine kI (rV (As := []) (rest := [.int p9]) ⟨hx, hb, hml, hown, hts⟩ (c_X5_node l D cI cL cM _ bb u  ) (cwV 0 hts gL_law_X5_node rfl rfl rfl (by decide +kernel) ⟨(Nat.le_of_ble_eq_true rfl), (Nat.le_of_ble_eq_true rfl)⟩) hE hP hD (segI 36 13) seg13 (lawW_rfC cI cL cM a o bb _ _ _) rfl (rfW_0 cI bb _) rfl hl.1 rfl (Nat.le_of_ble_eq_true rfl) dL_law_1127 ⟨hcl.1, hcl.2⟩) hP hD hS hA (is := (segI 36 13)) (lawW_rfC cI cL cM a o bb _ _ _) (rfW_fst cI bb _ _) (fun H locs hP hD hS => ?_)
  rw [lawW_rfP] at hP hD
  refine lv_topi (fun r9 hr9 => ?_)
  refine lv_icmp_eq (tgt := 1589) hx hb dL_law_1130 (by decide) (fun _ => ?_) (fun h9 => absurd (by rw [hp9, hr9, hR.pv.2.1.1]) h9)
  exact nx _ _ _ _ _ _ (Rel_t 0 hR) hP hD hS (lv_sub hl [0, 1, 2, 3, 4] rfl)
set_option maxHeartbeats 4000000 in
set_option maxRecDepth 100000 in
theorem lw_observed (C : LCx p l s m c sb L xs D cI cL cM sa A) (hn : 4 * n + 4 ≤ L) (hcl : cells + 3 ≤ 601024 ∧ slots + 18 ≤ 7293034) (hR : Rel x u n) (hP : va_P D vwCl (lawW cI cL cM a o bb x f u) H) (hD : va_D A (lawW cI cL cM a o bb x f u)) (hS : va_S A s.heap H locs) (hl : lv_has ls 9 (lvL n sb o a bb)) (nx : NX p l e s m below meth c sb D cI cL cM A a o bb cells slots n Q) : W p l e room_1 s m #[Value.ref sb] below meth c H locs cells slots Q (F0 m 1135 ls []) := by
  obtain ⟨⟨hnt, hx, hb, hml, hown⟩, hts, hEX, hN, hX, hbl, hbA, hA, hL⟩ := C
  have hE := hEX.1
  have hK := hE.1
  have i1 : vp_in (nI (4 * n) + 1) L := sc_in (k := 1) hL hn (by omega)
  have i2 : vp_in (nI (4 * n) + 2) L := sc_in (k := 2) hL hn (by omega)
  have i3 : vp_in (nI (4 * n) + 3) L := sc_in (k := 3) hL hn (by omega)
  refine W.widen (k := cells + 3) (n := slots + 18) (by omega) (by omega) ?_
  refine lv_aload_n hx hb dL_law_1135 rfl (lv_at hl 3 rfl) ?_
  refine kI (rV (As := []) (rest := []) ⟨hx, hb, hml, hown, hts⟩ (c_X4_observed l D cI cL cM _ a x  ) (cwV 0 hts gL_law_X4_observed rfl rfl rfl (by decide +kernel) ⟨(Nat.le_of_ble_eq_true rfl), (Nat.le_of_ble_eq_true rfl)⟩) hE hP hD (segI 0 35) seg35 (lawW_mxC cI cL cM a o bb _ _ _) rfl (mxW_0 cI cL cM a _) rfl hl.1 rfl (Nat.le_of_ble_eq_true rfl) dL_law_1136 ⟨hcl.1, hcl.2⟩) hP hD hS hA (is := (segI 0 35)) (lawW_mxC cI cL cM a o bb _ _ _) (mxW_fst cI cL cM a _ _) (fun H locs hP hD hS => ?_)
  rw [lawW_mxP] at hP hD
  refine lv_topi (fun p9 hp9 => ?_)
  refine lv_aload_n hx hb dL_law_1139 rfl (lv_at hl 2 rfl) ?_
  refine kI (rV (As := []) (rest := [.int p9]) ⟨hx, hb, hml, hown, hts⟩ (c_X5_observed l D cI cL cM _ bb u  ) (cwV 0 hts gL_law_X5_observed rfl rfl rfl (by decide +kernel) ⟨(Nat.le_of_ble_eq_true rfl), (Nat.le_of_ble_eq_true rfl)⟩) hE hP hD (segI 36 13) seg13 (lawW_rfC cI cL cM a o bb _ _ _) rfl (rfW_0 cI bb _) rfl hl.1 rfl (Nat.le_of_ble_eq_true rfl) dL_law_1140 ⟨hcl.1, hcl.2⟩) hP hD hS hA (is := (segI 36 13)) (lawW_rfC cI cL cM a o bb _ _ _) (rfW_fst cI bb _ _) (fun H locs hP hD hS => ?_)
  rw [lawW_rfP] at hP hD
  refine lv_topi (fun r9 hr9 => ?_)
  refine lv_icmp_eq (tgt := 1589) hx hb dL_law_1143 (by decide) (fun _ => ?_) (fun h9 => absurd (by rw [hp9, hr9, hR.1.2.1]) h9)
  exact nx _ _ _ _ _ _ (Rel_t 0 hR) hP hD hS (lv_sub hl [0, 1, 2, 3, 4] rfl)
set_option maxHeartbeats 4000000 in
set_option maxRecDepth 100000 in
theorem lw_error (C : LCx p l s m c sb L xs D cI cL cM sa A) (hn : 4 * n + 4 ≤ L) (hcl : cells + 3 ≤ 601024 ∧ slots + 18 ≤ 7293034) (hR : Rel x u n) (hP : va_P D vwCl (lawW cI cL cM a o bb x f u) H) (hD : va_D A (lawW cI cL cM a o bb x f u)) (hS : va_S A s.heap H locs) (hl : lv_has ls 9 (lvL n sb o a bb)) (nx : NX p l e s m below meth c sb D cI cL cM A a o bb cells slots n Q) : W p l e room_1 s m #[Value.ref sb] below meth c H locs cells slots Q (F0 m 1148 ls []) := by
  obtain ⟨⟨hnt, hx, hb, hml, hown⟩, hts, hEX, hN, hX, hbl, hbA, hA, hL⟩ := C
  have hE := hEX.1
  have hK := hE.1
  have i1 : vp_in (nI (4 * n) + 1) L := sc_in (k := 1) hL hn (by omega)
  have i2 : vp_in (nI (4 * n) + 2) L := sc_in (k := 2) hL hn (by omega)
  have i3 : vp_in (nI (4 * n) + 3) L := sc_in (k := 3) hL hn (by omega)
  refine W.widen (k := cells + 3) (n := slots + 18) (by omega) (by omega) ?_
  refine lv_aload_n hx hb dL_law_1148 rfl (lv_at hl 3 rfl) ?_
  refine kL (rV (As := []) (rest := []) ⟨hx, hb, hml, hown, hts⟩ (c_X4_error l D cI cL cM _ a x  ) (cwV 0 hts gL_law_X4_error rfl rfl rfl (by decide +kernel) ⟨(Nat.le_of_ble_eq_true rfl), (Nat.le_of_ble_eq_true rfl)⟩) hE hP hD (segI 0 35) seg35 (lawW_mxC cI cL cM a o bb _ _ _) rfl (mxW_0 cI cL cM a _) rfl hl.1 rfl (Nat.le_of_ble_eq_true rfl) dL_law_1149 ⟨hcl.1, hcl.2⟩) hP hD hS hA (is := (segI 0 35)) (lawW_mxC cI cL cM a o bb _ _ _) (mxW_fst cI cL cM a _ _) (fun H locs hP hD hS => ?_)
  rw [lawW_mxP] at hP hD
  refine lv_topl (fun p9 hp9 => ?_)
  refine lv_aload_n hx hb dL_law_1152 rfl (lv_at hl 2 rfl) ?_
  refine kL (rV (As := []) (rest := [.long p9]) ⟨hx, hb, hml, hown, hts⟩ (c_X5_error l D cI cL cM _ bb u  ) (cwV 0 hts gL_law_X5_error rfl rfl rfl (by decide +kernel) ⟨(Nat.le_of_ble_eq_true rfl), (Nat.le_of_ble_eq_true rfl)⟩) hE hP hD (segI 36 13) seg13 (lawW_rfC cI cL cM a o bb _ _ _) rfl (rfW_0 cI bb _) rfl hl.1 rfl (Nat.le_of_ble_eq_true rfl) dL_law_1153 ⟨hcl.1, hcl.2⟩) hP hD hS hA (is := (segI 36 13)) (lawW_rfC cI cL cM a o bb _ _ _) (rfW_fst cI bb _ _) (fun H locs hP hD hS => ?_)
  rw [lawW_rfP] at hP hD
  refine lv_topl (fun r9 hr9 => ?_)
  refine W.lcmp hx hb dL_law_1156 ?_
  refine lv_if_eq (tgt := 1589) hx hb dL_law_1157 (by decide) (fun _ => ?_) (fun h9 => absurd ((lg_cmp_eq _ _).mpr (by rw [hp9, hr9, hR.1.2.2])) h9)
  exact nx _ _ _ _ _ _ (Rel_t 0 hR) hP hD hS (lv_sub hl [0, 1, 2, 3, 4] rfl)
set_option maxHeartbeats 4000000 in
set_option maxRecDepth 100000 in
theorem lw_encode (C : LCx p l s m c sb L xs D cI cL cM sa A) (hn : 4 * n + 4 ≤ L) (hcl : cells + 3 ≤ 601024 ∧ slots + 18 ≤ 7293034) (hR : Rel x u n) (hP : va_P D vwCl (lawW cI cL cM a o bb x f u) H) (hD : va_D A (lawW cI cL cM a o bb x f u)) (hS : va_S A s.heap H locs) (hl : lv_has ls 9 (lvL n sb o a bb)) (nx : NX p l e s m below meth c sb D cI cL cM A a o bb cells slots n Q) : W p l e room_1 s m #[Value.ref sb] below meth c H locs cells slots Q (F0 m 1203 ls []) := by
  obtain ⟨⟨hnt, hx, hb, hml, hown⟩, hts, hEX, hN, hX, hbl, hbA, hA, hL⟩ := C
  have hE := hEX.1
  have hK := hE.1
  have i1 : vp_in (nI (4 * n) + 1) L := sc_in (k := 1) hL hn (by omega)
  have i2 : vp_in (nI (4 * n) + 2) L := sc_in (k := 2) hL hn (by omega)
  have i3 : vp_in (nI (4 * n) + 3) L := sc_in (k := 3) hL hn (by omega)
  refine W.widen (k := cells + 3) (n := slots + 18) (by omega) (by omega) ?_
  refine lv_aload_n hx hb dL_law_1203 rfl (lv_at hl 3 rfl) ?_
  refine kI (rV (As := []) (rest := []) ⟨hx, hb, hml, hown, hts⟩ (c_X4_encode l D cI cL cM _ a x  Jv9 Jv9_inv hR.J hR.n6 hR.tc) (cwV 0 hts gL_law_X4_encode rfl rfl rfl (by decide +kernel) ⟨(Nat.le_of_ble_eq_true rfl), (Nat.le_of_ble_eq_true rfl)⟩) hE hP hD (segI 0 35) seg35 (lawW_mxC cI cL cM a o bb _ _ _) rfl (mxW_0 cI cL cM a _) rfl hl.1 rfl (Nat.le_of_ble_eq_true rfl) dL_law_1204 ⟨hcl.1, hcl.2⟩) hP hD hS hA (is := (segI 0 35)) (lawW_mxC cI cL cM a o bb _ _ _) (mxW_fst cI cL cM a _ _) (fun H locs hP hD hS => ?_)
  rw [lawW_mxP] at hP hD
  refine lv_topi (fun p9 hp9 => ?_)
  refine lv_aload_n hx hb dL_law_1207 rfl (lv_at hl 2 rfl) ?_
  refine kI (rV (As := []) (rest := [.int p9]) ⟨hx, hb, hml, hown, hts⟩ (c_X5_encode l D cI cL cM _ bb u  Iv9 Iv9_inv H4ps hR.I hR.sz) (cwV 0 hts gL_law_X5_encode rfl rfl rfl (by decide +kernel) ⟨(Nat.le_of_ble_eq_true rfl), (Nat.le_of_ble_eq_true rfl)⟩) hE hP hD (segI 36 13) seg13 (lawW_rfC cI cL cM a o bb _ _ _) rfl (rfW_0 cI bb _) rfl hl.1 rfl (Nat.le_of_ble_eq_true rfl) dL_law_1208 ⟨hcl.1, hcl.2⟩) hP hD hS hA (is := (segI 36 13)) (lawW_rfC cI cL cM a o bb _ _ _) (rfW_fst cI bb _ _) (fun H locs hP hD hS => ?_)
  rw [lawW_rfP] at hP hD
  refine lv_topi (fun r9 hr9 => ?_)
  refine lv_icmp_eq (tgt := 1589) hx hb dL_law_1211 (by decide) (fun _ => ?_) (fun h9 => absurd (by rw [hp9, hr9, (cl_encode hR).1]) h9)
  exact nx _ _ _ _ _ _ (cl_encode hR).2 hP hD hS (lv_sub hl [0, 1, 2, 3, 4] rfl)
set_option maxHeartbeats 4000000 in
set_option maxRecDepth 100000 in
theorem lw_codeSize (C : LCx p l s m c sb L xs D cI cL cM sa A) (hn : 4 * n + 4 ≤ L) (hcl : cells + 3 ≤ 601024 ∧ slots + 18 ≤ 7293034) (hR : Rel x u n) (hP : va_P D vwCl (lawW cI cL cM a o bb x f u) H) (hD : va_D A (lawW cI cL cM a o bb x f u)) (hS : va_S A s.heap H locs) (hl : lv_has ls 9 (lvL n sb o a bb)) (nx : NX p l e s m below meth c sb D cI cL cM A a o bb cells slots n Q) : W p l e room_1 s m #[Value.ref sb] below meth c H locs cells slots Q (F0 m 1216 ls []) := by
  obtain ⟨⟨hnt, hx, hb, hml, hown⟩, hts, hEX, hN, hX, hbl, hbA, hA, hL⟩ := C
  have hE := hEX.1
  have hK := hE.1
  have i1 : vp_in (nI (4 * n) + 1) L := sc_in (k := 1) hL hn (by omega)
  have i2 : vp_in (nI (4 * n) + 2) L := sc_in (k := 2) hL hn (by omega)
  have i3 : vp_in (nI (4 * n) + 3) L := sc_in (k := 3) hL hn (by omega)
  refine W.widen (k := cells + 3) (n := slots + 18) (by omega) (by omega) ?_
  refine lv_aload_n hx hb dL_law_1216 rfl (lv_at hl 3 rfl) ?_
  refine kI (rV (As := []) (rest := []) ⟨hx, hb, hml, hown, hts⟩ (c_X4_codeSize l D cI cL cM _ a x  ) (cwV 0 hts gL_law_X4_codeSize rfl rfl rfl (by decide +kernel) ⟨(Nat.le_of_ble_eq_true rfl), (Nat.le_of_ble_eq_true rfl)⟩) hE hP hD (segI 0 35) seg35 (lawW_mxC cI cL cM a o bb _ _ _) rfl (mxW_0 cI cL cM a _) rfl hl.1 rfl (Nat.le_of_ble_eq_true rfl) dL_law_1217 ⟨hcl.1, hcl.2⟩) hP hD hS hA (is := (segI 0 35)) (lawW_mxC cI cL cM a o bb _ _ _) (mxW_fst cI cL cM a _ _) (fun H locs hP hD hS => ?_)
  rw [lawW_mxP] at hP hD
  refine lv_topi (fun p9 hp9 => ?_)
  refine lv_aload_n hx hb dL_law_1220 rfl (lv_at hl 2 rfl) ?_
  refine kI (rV (As := []) (rest := [.int p9]) ⟨hx, hb, hml, hown, hts⟩ (c_X5_codeSize l D cI cL cM _ bb u  ) (cwV 0 hts gL_law_X5_codeSize rfl rfl rfl (by decide +kernel) ⟨(Nat.le_of_ble_eq_true rfl), (Nat.le_of_ble_eq_true rfl)⟩) hE hP hD (segI 36 13) seg13 (lawW_rfC cI cL cM a o bb _ _ _) rfl (rfW_0 cI bb _) rfl hl.1 rfl (Nat.le_of_ble_eq_true rfl) dL_law_1221 ⟨hcl.1, hcl.2⟩) hP hD hS hA (is := (segI 36 13)) (lawW_rfC cI cL cM a o bb _ _ _) (rfW_fst cI bb _ _) (fun H locs hP hD hS => ?_)
  rw [lawW_rfP] at hP hD
  refine lv_topi (fun r9 hr9 => ?_)
  refine lv_icmp_eq (tgt := 1589) hx hb dL_law_1224 (by decide) (fun _ => ?_) (fun h9 => absurd (by rw [hp9, hr9, hR.2.2.2.1.1.1]) h9)
  exact nx _ _ _ _ _ _ (Rel_t 0 hR) hP hD hS (lv_sub hl [0, 1, 2, 3, 4] rfl)
set_option maxHeartbeats 4000000 in
set_option maxRecDepth 100000 in
theorem lw_code (C : LCx p l s m c sb L xs D cI cL cM sa A) (hn : 4 * n + 4 ≤ L) (hcl : cells + 3 ≤ 601024 ∧ slots + 18 ≤ 7293034) (hR : Rel x u n) (hP : va_P D vwCl (lawW cI cL cM a o bb x f u) H) (hD : va_D A (lawW cI cL cM a o bb x f u)) (hS : va_S A s.heap H locs) (hl : lv_has ls 9 (lvL n sb o a bb)) (nx : NX p l e s m below meth c sb D cI cL cM A a o bb cells slots n Q) : W p l e room_1 s m #[Value.ref sb] below meth c H locs cells slots Q (F0 m 1229 ls []) := by
  obtain ⟨⟨hnt, hx, hb, hml, hown⟩, hts, hEX, hN, hX, hbl, hbA, hA, hL⟩ := C
  have hE := hEX.1
  have hK := hE.1
  have i1 : vp_in (nI (4 * n) + 1) L := sc_in (k := 1) hL hn (by omega)
  have i2 : vp_in (nI (4 * n) + 2) L := sc_in (k := 2) hL hn (by omega)
  have i3 : vp_in (nI (4 * n) + 3) L := sc_in (k := 3) hL hn (by omega)
  refine lv_aload_n hx hb dL_law_1229 rfl (lv_at hl 3 rfl) ?_
  refine lv_aload_n hx hb dL_law_1230 rfl (lv_at hl 4 rfl) ?_
  refine lv_iload hx hb dL_law_1231 (lv_at hl 0 rfl) ?_
  refine lv_iconst (v := 1) hx hb dL_law_1233 (by decide) ?_
  refine lv_iadd hx hb dL_law_1234 ?_
  refine va_sld hx hb hX hbl hbA hS i1 dL_law_1235 ?_
  refine lv_aload_n hx hb dL_law_1236 rfl (lv_at hl 1 rfl) ?_
  refine kW (As := [.ref (a 0), .int (xs (nI (4 * n) + 1).toNatClampNeg), .ref o]) (rest := []) ⟨hx, hb, hml, hown, hts⟩ (c_L_code l hnt D cI cL cM _ sa a o x f (xs (nI (4 * n) + 1).toNatClampNeg) hR.ec) (vx_cwSW 3 hts gL_law_L_code rfl rfl rfl (by decide +kernel) ⟨(Nat.le_of_ble_eq_true rfl), (Nat.le_of_ble_eq_true rfl)⟩) hEX hN hP hD hS hA (segI 0 36) seg36 (lawW_wrC cI cL cM a o bb x f u) (wrW_fst cI cL cM a o _ _ _ _) rfl hl.1 rfl (Nat.le_of_ble_eq_true rfl) dL_law_1237 ⟨hcl.1, hcl.2⟩ (fun H locs hP hD hS => ?_)
  rw [lawW_wrP] at hP hD
  refine lv_topi (fun k9 hk9 => ?_)
  refine lv_istore (lv' := [(5, .int k9), (4, .int (nI (4 * n))), (3, .ref o), (2, .ref (bb 0)), (1, .ref (a 0)), (0, .ref sb)]) hx hb dL_law_1240 hl (by decide) rfl (fun ls hl => ?_)
  refine lv_aload_n hx hb dL_law_1242 rfl (lv_at hl 3 rfl) ?_
  refine lv_aload_n hx hb dL_law_1243 rfl (lv_at hl 5 rfl) ?_
  refine lv_iload hx hb dL_law_1244 (lv_at hl 1 rfl) ?_
  refine lv_iconst (v := 1) hx hb dL_law_1246 (by decide) ?_
  refine lv_iadd hx hb dL_law_1247 ?_
  refine va_sld hx hb hX hbl hbA hS i1 dL_law_1248 ?_
  refine kI (rV (As := [.int (xs (nI (4 * n) + 1).toNatClampNeg)]) (rest := []) ⟨hx, hb, hml, hown, hts⟩ (c_X5_code l D cI cL cM _ bb u (xs (nI (4 * n) + 1).toNatClampNeg) hR.cs) (cwV 1 hts gL_law_X5_code rfl rfl rfl (by decide +kernel) ⟨(Nat.le_of_ble_eq_true rfl), (Nat.le_of_ble_eq_true rfl)⟩) hE hP hD (segI 36 13) seg13 (lawW_rfC cI cL cM a o bb _ _ _) rfl (rfW_0 cI bb _) rfl hl.1 rfl (Nat.le_of_ble_eq_true rfl) dL_law_1249 ⟨hcl.1, hcl.2⟩) hP hD hS hA (is := (segI 36 13)) (lawW_rfC cI cL cM a o bb _ _ _) (rfW_fst cI bb _ _) (fun H locs hP hD hS => ?_)
  rw [lawW_rfP] at hP hD
  refine lv_topi (fun r9 hr9 => ?_)
  have hC9 := cl_place hR hR.2.2.2.1.1 hR.2.2.2.1.2.2 (xs (nI (4 * n) + 1).toNatClampNeg)
  obtain ⟨k1, k2, k3⟩ := hC9
  refine lv_istore (lv' := [(6, .int r9), (5, .int k9), (4, .int (nI (4 * n))), (3, .ref o), (2, .ref (bb 0)), (1, .ref (a 0)), (0, .ref sb)]) hx hb dL_law_1252 hl (by decide) rfl (fun ls hl => ?_)
  refine lv_aload_n hx hb dL_law_1254 rfl (lv_at hl 4 rfl) ?_
  refine kI (rV (As := []) (rest := []) ⟨hx, hb, hml, hown, hts⟩ (c_X5_thrown l D cI cL cM _ bb _) (cwV 0 hts gL_law_X5_thrown rfl rfl rfl (by decide +kernel) ⟨(Nat.le_of_ble_eq_true rfl), (Nat.le_of_ble_eq_true rfl)⟩) hE hP hD (segI 36 13) seg13 (lawW_rfC cI cL cM a o bb _ _ _) rfl (rfW_0 cI bb _) rfl hl.1 rfl (Nat.le_of_ble_eq_true rfl) dL_law_1255 ⟨hcl.1, hcl.2⟩) hP hD hS hA (is := (segI 36 13)) (lawW_rfC cI cL cM a o bb _ _ _) (rfW_fst cI bb _ _) (fun H locs hP hD hS => ?_)
  rw [lawW_rfP] at hP hD
  refine lv_topi (fun t9 ht9 => ?_)
  refine lv_iload hx hb dL_law_1258 (lv_at hl 1 rfl) ?_
  refine lv_icmp_eq (tgt := 1265) hx hb dL_law_1260 (by decide) (fun _ => ?_) (fun h9 => absurd ((ht9.trans k1).trans hk9.symm) h9)
  refine lv_iload hx hb dL_law_1265 (lv_at hl 1 rfl) ?_
  refine lv_if_ne (tgt := 1282) hx hb dL_law_1267 (by decide) (fun g9 => ?_) (fun g9 => ?_)
  · refine lv_goto (tgt := 1589) hx hb dL_law_1282 (by decide) ?_
    exact nx _ _ _ _ _ _ k3 hP hD hS (lv_sub hl [2, 3, 4, 5, 6] rfl)
  · have g0 : cdPlc (x_en x) (xs (nI (4 * n) + 1).toNatClampNeg) = 0 := hk9.symm.trans g9
    refine lv_aload_n hx hb dL_law_1270 rfl (lv_at hl 3 rfl) ?_
    refine lv_iconst (v := 0) hx hb dL_law_1271 (by decide) ?_
    refine lldN hx hb hK hP 35 1 (lawW_35 cI cL cM a o bb _ _ _) rfl 0 (by omega) (Nat.le_of_ble_eq_true rfl) dL_law_1272 ?_
    refine lv_topl (fun v9 hv9 => ?_)
    refine lv_iload hx hb dL_law_1273 (lv_at hl 0 rfl) ?_
    refine lv_i2l hx hb dL_law_1275 rfl ?_
    refine W.lcmp hx hb dL_law_1276 ?_
    refine lv_if_eq (tgt := 1282) hx hb dL_law_1277 (by decide) (fun _ => ?_) (fun h9 => absurd ((lg_cmp_eq _ _).mpr (by rw [hv9, if_pos g0, pk_uLs, k2 g0, hr9])) h9)
    refine lv_goto (tgt := 1589) hx hb dL_law_1282 (by decide) ?_
    exact nx _ _ _ _ _ _ k3 hP hD hS (lv_sub hl [2, 3, 4, 5, 6] rfl)
set_option maxHeartbeats 4000000 in
set_option maxRecDepth 100000 in
theorem lw_setCode (C : LCx p l s m c sb L xs D cI cL cM sa A) (hn : 4 * n + 4 ≤ L) (hcl : cells + 3 ≤ 601024 ∧ slots + 18 ≤ 7293034) (hR : Rel x u n) (hP : va_P D vwCl (lawW cI cL cM a o bb x f u) H) (hD : va_D A (lawW cI cL cM a o bb x f u)) (hS : va_S A s.heap H locs) (hl : lv_has ls 9 (lvL n sb o a bb)) (nx : NX p l e s m below meth c sb D cI cL cM A a o bb cells slots n Q) : W p l e room_1 s m #[Value.ref sb] below meth c H locs cells slots Q (F0 m 1285 ls []) := by
  obtain ⟨⟨hnt, hx, hb, hml, hown⟩, hts, hEX, hN, hX, hbl, hbA, hA, hL⟩ := C
  have hE := hEX.1
  have hK := hE.1
  have i1 : vp_in (nI (4 * n) + 1) L := sc_in (k := 1) hL hn (by omega)
  have i2 : vp_in (nI (4 * n) + 2) L := sc_in (k := 2) hL hn (by omega)
  have i3 : vp_in (nI (4 * n) + 3) L := sc_in (k := 3) hL hn (by omega)
  refine lv_aload_n hx hb dL_law_1285 rfl (lv_at hl 3 rfl) ?_
  refine lv_aload_n hx hb dL_law_1286 rfl (lv_at hl 4 rfl) ?_
  refine lv_iload hx hb dL_law_1287 (lv_at hl 0 rfl) ?_
  refine lv_iconst (v := 1) hx hb dL_law_1289 (by decide) ?_
  refine lv_iadd hx hb dL_law_1290 ?_
  refine va_sld hx hb hX hbl hbA hS i1 dL_law_1291 ?_
  refine lv_aload_n hx hb dL_law_1292 rfl (lv_at hl 4 rfl) ?_
  refine lv_iload hx hb dL_law_1293 (lv_at hl 0 rfl) ?_
  refine lv_iconst (v := 2) hx hb dL_law_1295 (by decide) ?_
  refine lv_iadd hx hb dL_law_1296 ?_
  refine va_sld hx hb hX hbl hbA hS i2 dL_law_1297 ?_
  refine lv_aload_n hx hb dL_law_1298 rfl (lv_at hl 1 rfl) ?_
  refine kW (As := [.ref (a 0), .int (xs (nI (4 * n) + 1).toNatClampNeg), .int (xs (nI (4 * n) + 2).toNatClampNeg), .ref o]) (rest := []) ⟨hx, hb, hml, hown, hts⟩ (c_L_setCode l hnt D cI cL cM _ sa a o x f (xs (nI (4 * n) + 1).toNatClampNeg) (xs (nI (4 * n) + 2).toNatClampNeg) hR.ec) (vx_cwSW 4 hts gL_law_L_setCode rfl rfl rfl (by decide +kernel) ⟨(Nat.le_of_ble_eq_true rfl), (Nat.le_of_ble_eq_true rfl)⟩) hEX hN hP hD hS hA (segI 0 36) seg36 (lawW_wrC cI cL cM a o bb x f u) (wrW_fst cI cL cM a o _ _ _ _) rfl hl.1 rfl (Nat.le_of_ble_eq_true rfl) dL_law_1299 ⟨hcl.1, hcl.2⟩ (fun H locs hP hD hS => ?_)
  rw [lawW_wrP] at hP hD
  refine lv_topi (fun k9 hk9 => ?_)
  refine lv_istore (lv' := [(5, .int k9), (4, .int (nI (4 * n))), (3, .ref o), (2, .ref (bb 0)), (1, .ref (a 0)), (0, .ref sb)]) hx hb dL_law_1302 hl (by decide) rfl (fun ls hl => ?_)
  refine lv_aload_n hx hb dL_law_1304 rfl (lv_at hl 3 rfl) ?_
  refine lv_aload_n hx hb dL_law_1305 rfl (lv_at hl 5 rfl) ?_
  refine lv_iload hx hb dL_law_1306 (lv_at hl 1 rfl) ?_
  refine lv_iconst (v := 1) hx hb dL_law_1308 (by decide) ?_
  refine lv_iadd hx hb dL_law_1309 ?_
  refine va_sld hx hb hX hbl hbA hS i1 dL_law_1310 ?_
  refine lv_aload_n hx hb dL_law_1311 rfl (lv_at hl 5 rfl) ?_
  refine lv_iload hx hb dL_law_1312 (lv_at hl 1 rfl) ?_
  refine lv_iconst (v := 2) hx hb dL_law_1314 (by decide) ?_
  refine lv_iadd hx hb dL_law_1315 ?_
  refine va_sld hx hb hX hbl hbA hS i2 dL_law_1316 ?_
  refine kI (rV (As := [.int (xs (nI (4 * n) + 1).toNatClampNeg), .int (xs (nI (4 * n) + 2).toNatClampNeg)]) (rest := []) ⟨hx, hb, hml, hown, hts⟩ (c_X5_setCode l D cI cL cM _ bb u (xs (nI (4 * n) + 1).toNatClampNeg) (xs (nI (4 * n) + 2).toNatClampNeg) hR.cs) (cwV 2 hts gL_law_X5_setCode rfl rfl rfl (by decide +kernel) ⟨(Nat.le_of_ble_eq_true rfl), (Nat.le_of_ble_eq_true rfl)⟩) hE hP hD (segI 36 13) seg13 (lawW_rfC cI cL cM a o bb _ _ _) rfl (rfW_0 cI bb _) rfl hl.1 rfl (Nat.le_of_ble_eq_true rfl) dL_law_1317 ⟨hcl.1, hcl.2⟩) hP hD hS hA (is := (segI 36 13)) (lawW_rfC cI cL cM a o bb _ _ _) (rfW_fst cI bb _ _) (fun H locs hP hD hS => ?_)
  rw [lawW_rfP] at hP hD
  refine lv_topi (fun r9 hr9 => ?_)
  have hC9 := cl_setCode hR (xs (nI (4 * n) + 1).toNatClampNeg) (xs (nI (4 * n) + 2).toNatClampNeg)
  obtain ⟨k1, k2, k3⟩ := hC9
  refine lv_istore (lv' := [(6, .int r9), (5, .int k9), (4, .int (nI (4 * n))), (3, .ref o), (2, .ref (bb 0)), (1, .ref (a 0)), (0, .ref sb)]) hx hb dL_law_1320 hl (by decide) rfl (fun ls hl => ?_)
  refine lv_aload_n hx hb dL_law_1322 rfl (lv_at hl 4 rfl) ?_
  refine kI (rV (As := []) (rest := []) ⟨hx, hb, hml, hown, hts⟩ (c_X5_thrown l D cI cL cM _ bb _) (cwV 0 hts gL_law_X5_thrown rfl rfl rfl (by decide +kernel) ⟨(Nat.le_of_ble_eq_true rfl), (Nat.le_of_ble_eq_true rfl)⟩) hE hP hD (segI 36 13) seg13 (lawW_rfC cI cL cM a o bb _ _ _) rfl (rfW_0 cI bb _) rfl hl.1 rfl (Nat.le_of_ble_eq_true rfl) dL_law_1323 ⟨hcl.1, hcl.2⟩) hP hD hS hA (is := (segI 36 13)) (lawW_rfC cI cL cM a o bb _ _ _) (rfW_fst cI bb _ _) (fun H locs hP hD hS => ?_)
  rw [lawW_rfP] at hP hD
  refine lv_topi (fun t9 ht9 => ?_)
  refine lv_iload hx hb dL_law_1326 (lv_at hl 1 rfl) ?_
  refine lv_icmp_eq (tgt := 1333) hx hb dL_law_1328 (by decide) (fun _ => ?_) (fun h9 => absurd ((ht9.trans k1).trans hk9.symm) h9)
  refine lv_iload hx hb dL_law_1333 (lv_at hl 1 rfl) ?_
  refine lv_if_ne (tgt := 1350) hx hb dL_law_1335 (by decide) (fun g9 => ?_) (fun g9 => ?_)
  · refine lv_goto (tgt := 1589) hx hb dL_law_1350 (by decide) ?_
    exact nx _ _ _ _ _ _ k3 hP hD hS (lv_sub hl [2, 3, 4, 5, 6] rfl)
  · have g0 : cdSet (x_en x) (xs (nI (4 * n) + 1).toNatClampNeg) (xs (nI (4 * n) + 2).toNatClampNeg) = 0 := hk9.symm.trans g9
    refine lv_aload_n hx hb dL_law_1338 rfl (lv_at hl 3 rfl) ?_
    refine lv_iconst (v := 0) hx hb dL_law_1339 (by decide) ?_
    refine lldN hx hb hK hP 35 1 (lawW_35 cI cL cM a o bb _ _ _) rfl 0 (by omega) (Nat.le_of_ble_eq_true rfl) dL_law_1340 ?_
    refine lv_topl (fun v9 hv9 => ?_)
    refine lv_iload hx hb dL_law_1341 (lv_at hl 0 rfl) ?_
    refine lv_i2l hx hb dL_law_1343 rfl ?_
    refine W.lcmp hx hb dL_law_1344 ?_
    refine lv_if_eq (tgt := 1350) hx hb dL_law_1345 (by decide) (fun _ => ?_) (fun h9 => absurd ((lg_cmp_eq _ _).mpr (by rw [hv9, if_pos g0, pk_uLs, k2 g0, hr9])) h9)
    refine lv_goto (tgt := 1589) hx hb dL_law_1350 (by decide) ?_
    exact nx _ _ _ _ _ _ k3 hP hD hS (lv_sub hl [2, 3, 4, 5, 6] rfl)
set_option maxHeartbeats 4000000 in
set_option maxRecDepth 100000 in
theorem lw_cutCode (C : LCx p l s m c sb L xs D cI cL cM sa A) (hn : 4 * n + 4 ≤ L) (hcl : cells + 3 ≤ 601024 ∧ slots + 18 ≤ 7293034) (hR : Rel x u n) (hP : va_P D vwCl (lawW cI cL cM a o bb x f u) H) (hD : va_D A (lawW cI cL cM a o bb x f u)) (hS : va_S A s.heap H locs) (hl : lv_has ls 9 (lvL n sb o a bb)) (nx : NX p l e s m below meth c sb D cI cL cM A a o bb cells slots n Q) : W p l e room_1 s m #[Value.ref sb] below meth c H locs cells slots Q (F0 m 1353 ls []) := by
  obtain ⟨⟨hnt, hx, hb, hml, hown⟩, hts, hEX, hN, hX, hbl, hbA, hA, hL⟩ := C
  have hE := hEX.1
  have hK := hE.1
  have i1 : vp_in (nI (4 * n) + 1) L := sc_in (k := 1) hL hn (by omega)
  have i2 : vp_in (nI (4 * n) + 2) L := sc_in (k := 2) hL hn (by omega)
  have i3 : vp_in (nI (4 * n) + 3) L := sc_in (k := 3) hL hn (by omega)
  refine lv_aload_n hx hb dL_law_1353 rfl (lv_at hl 3 rfl) ?_
  refine lv_aload_n hx hb dL_law_1354 rfl (lv_at hl 4 rfl) ?_
  refine lv_iload hx hb dL_law_1355 (lv_at hl 0 rfl) ?_
  refine lv_iconst (v := 1) hx hb dL_law_1357 (by decide) ?_
  refine lv_iadd hx hb dL_law_1358 ?_
  refine va_sld hx hb hX hbl hbA hS i1 dL_law_1359 ?_
  refine lv_aload_n hx hb dL_law_1360 rfl (lv_at hl 1 rfl) ?_
  refine kW (As := [.ref (a 0), .int (xs (nI (4 * n) + 1).toNatClampNeg), .ref o]) (rest := []) ⟨hx, hb, hml, hown, hts⟩ (c_L_cutCode l hnt D cI cL cM _ sa a o x f (xs (nI (4 * n) + 1).toNatClampNeg) hR.ec) (vx_cwSW 3 hts gL_law_L_cutCode rfl rfl rfl (by decide +kernel) ⟨(Nat.le_of_ble_eq_true rfl), (Nat.le_of_ble_eq_true rfl)⟩) hEX hN hP hD hS hA (segI 0 36) seg36 (lawW_wrC cI cL cM a o bb x f u) (wrW_fst cI cL cM a o _ _ _ _) rfl hl.1 rfl (Nat.le_of_ble_eq_true rfl) dL_law_1361 ⟨hcl.1, hcl.2⟩ (fun H locs hP hD hS => ?_)
  rw [lawW_wrP] at hP hD
  refine lv_topi (fun k9 hk9 => ?_)
  refine lv_istore (lv' := [(5, .int k9), (4, .int (nI (4 * n))), (3, .ref o), (2, .ref (bb 0)), (1, .ref (a 0)), (0, .ref sb)]) hx hb dL_law_1364 hl (by decide) rfl (fun ls hl => ?_)
  refine lv_aload_n hx hb dL_law_1366 rfl (lv_at hl 3 rfl) ?_
  refine lv_aload_n hx hb dL_law_1367 rfl (lv_at hl 5 rfl) ?_
  refine lv_iload hx hb dL_law_1368 (lv_at hl 1 rfl) ?_
  refine lv_iconst (v := 1) hx hb dL_law_1370 (by decide) ?_
  refine lv_iadd hx hb dL_law_1371 ?_
  refine va_sld hx hb hX hbl hbA hS i1 dL_law_1372 ?_
  refine kI (rV (As := [.int (xs (nI (4 * n) + 1).toNatClampNeg)]) (rest := []) ⟨hx, hb, hml, hown, hts⟩ (c_X5_cutCode l D cI cL cM _ bb u (xs (nI (4 * n) + 1).toNatClampNeg) hR.cs) (cwV 1 hts gL_law_X5_cutCode rfl rfl rfl (by decide +kernel) ⟨(Nat.le_of_ble_eq_true rfl), (Nat.le_of_ble_eq_true rfl)⟩) hE hP hD (segI 36 13) seg13 (lawW_rfC cI cL cM a o bb _ _ _) rfl (rfW_0 cI bb _) rfl hl.1 rfl (Nat.le_of_ble_eq_true rfl) dL_law_1373 ⟨hcl.1, hcl.2⟩) hP hD hS hA (is := (segI 36 13)) (lawW_rfC cI cL cM a o bb _ _ _) (rfW_fst cI bb _ _) (fun H locs hP hD hS => ?_)
  rw [lawW_rfP] at hP hD
  refine lv_topi (fun r9 hr9 => ?_)
  have hC9 := cl_cutCode hR (xs (nI (4 * n) + 1).toNatClampNeg)
  obtain ⟨k1, k2, k3⟩ := hC9
  refine lv_istore (lv' := [(6, .int r9), (5, .int k9), (4, .int (nI (4 * n))), (3, .ref o), (2, .ref (bb 0)), (1, .ref (a 0)), (0, .ref sb)]) hx hb dL_law_1376 hl (by decide) rfl (fun ls hl => ?_)
  refine lv_aload_n hx hb dL_law_1378 rfl (lv_at hl 4 rfl) ?_
  refine kI (rV (As := []) (rest := []) ⟨hx, hb, hml, hown, hts⟩ (c_X5_thrown l D cI cL cM _ bb _) (cwV 0 hts gL_law_X5_thrown rfl rfl rfl (by decide +kernel) ⟨(Nat.le_of_ble_eq_true rfl), (Nat.le_of_ble_eq_true rfl)⟩) hE hP hD (segI 36 13) seg13 (lawW_rfC cI cL cM a o bb _ _ _) rfl (rfW_0 cI bb _) rfl hl.1 rfl (Nat.le_of_ble_eq_true rfl) dL_law_1379 ⟨hcl.1, hcl.2⟩) hP hD hS hA (is := (segI 36 13)) (lawW_rfC cI cL cM a o bb _ _ _) (rfW_fst cI bb _ _) (fun H locs hP hD hS => ?_)
  rw [lawW_rfP] at hP hD
  refine lv_topi (fun t9 ht9 => ?_)
  refine lv_iload hx hb dL_law_1382 (lv_at hl 1 rfl) ?_
  refine lv_icmp_eq (tgt := 1389) hx hb dL_law_1384 (by decide) (fun _ => ?_) (fun h9 => absurd ((ht9.trans k1).trans hk9.symm) h9)
  refine lv_iload hx hb dL_law_1389 (lv_at hl 1 rfl) ?_
  refine lv_if_ne (tgt := 1406) hx hb dL_law_1391 (by decide) (fun g9 => ?_) (fun g9 => ?_)
  · refine lv_goto (tgt := 1589) hx hb dL_law_1406 (by decide) ?_
    exact nx _ _ _ _ _ _ k3 hP hD hS (lv_sub hl [2, 3, 4, 5, 6] rfl)
  · have g0 : cdCut (x_en x) (xs (nI (4 * n) + 1).toNatClampNeg) = 0 := hk9.symm.trans g9
    refine lv_aload_n hx hb dL_law_1394 rfl (lv_at hl 3 rfl) ?_
    refine lv_iconst (v := 0) hx hb dL_law_1395 (by decide) ?_
    refine lldN hx hb hK hP 35 1 (lawW_35 cI cL cM a o bb _ _ _) rfl 0 (by omega) (Nat.le_of_ble_eq_true rfl) dL_law_1396 ?_
    refine lv_topl (fun v9 hv9 => ?_)
    refine lv_iload hx hb dL_law_1397 (lv_at hl 0 rfl) ?_
    refine lv_i2l hx hb dL_law_1399 rfl ?_
    refine W.lcmp hx hb dL_law_1400 ?_
    refine lv_if_eq (tgt := 1406) hx hb dL_law_1401 (by decide) (fun _ => ?_) (fun h9 => absurd ((lg_cmp_eq _ _).mpr (by rw [hv9, if_pos g0, pk_uLs, k2 g0, hr9])) h9)
    refine lv_goto (tgt := 1589) hx hb dL_law_1406 (by decide) ?_
    exact nx _ _ _ _ _ _ k3 hP hD hS (lv_sub hl [2, 3, 4, 5, 6] rfl)
set_option maxHeartbeats 4000000 in
set_option maxRecDepth 100000 in
theorem lw_decode (C : LCx p l s m c sb L xs D cI cL cM sa A) (hn : 4 * n + 4 ≤ L) (hcl : cells + 3 ≤ 601024 ∧ slots + 18 ≤ 7293034) (hR : Rel x u n) (hP : va_P D vwCl (lawW cI cL cM a o bb x f u) H) (hD : va_D A (lawW cI cL cM a o bb x f u)) (hS : va_S A s.heap H locs) (hl : lv_has ls 9 (lvL n sb o a bb)) (nx : NX p l e s m below meth c sb D cI cL cM A a o bb cells slots n Q) : W p l e room_1 s m #[Value.ref sb] below meth c H locs cells slots Q (F0 m 1409 ls []) := by
  obtain ⟨⟨hnt, hx, hb, hml, hown⟩, hts, hEX, hN, hX, hbl, hbA, hA, hL⟩ := C
  have hE := hEX.1
  have hK := hE.1
  have i1 : vp_in (nI (4 * n) + 1) L := sc_in (k := 1) hL hn (by omega)
  have i2 : vp_in (nI (4 * n) + 2) L := sc_in (k := 2) hL hn (by omega)
  have i3 : vp_in (nI (4 * n) + 3) L := sc_in (k := 3) hL hn (by omega)
  refine lv_aload_n hx hb dL_law_1409 rfl (lv_at hl 3 rfl) ?_
  refine lv_aload_n hx hb dL_law_1410 rfl (lv_at hl 4 rfl) ?_
  refine lv_iload hx hb dL_law_1411 (lv_at hl 0 rfl) ?_
  refine lv_iconst (v := 1) hx hb dL_law_1413 (by decide) ?_
  refine lv_iadd hx hb dL_law_1414 ?_
  refine va_sld hx hb hX hbl hbA hS i1 dL_law_1415 ?_
  refine lv_aload_n hx hb dL_law_1416 rfl (lv_at hl 1 rfl) ?_
  refine kW (As := [.ref (a 0), .int (xs (nI (4 * n) + 1).toNatClampNeg), .ref o]) (rest := []) ⟨hx, hb, hml, hown, hts⟩ (c_L_decode l hnt D cI cL cM _ sa a o x f (xs (nI (4 * n) + 1).toNatClampNeg) Jv9 Jv9_inv hR.J hR.n6 hR.tc hR.ec) (vx_cwSW 3 hts gL_law_L_decode rfl rfl rfl (by decide +kernel) ⟨(Nat.le_of_ble_eq_true rfl), (Nat.le_of_ble_eq_true rfl)⟩) hEX hN hP hD hS hA (segI 0 36) seg36 (lawW_wrC cI cL cM a o bb x f u) (wrW_fst cI cL cM a o _ _ _ _) rfl hl.1 rfl (Nat.le_of_ble_eq_true rfl) dL_law_1417 ⟨hcl.1, hcl.2⟩ (fun H locs hP hD hS => ?_)
  rw [lawW_wrP] at hP hD
  refine lv_topi (fun k9 hk9 => ?_)
  refine lv_istore (lv' := [(5, .int k9), (4, .int (nI (4 * n))), (3, .ref o), (2, .ref (bb 0)), (1, .ref (a 0)), (0, .ref sb)]) hx hb dL_law_1420 hl (by decide) rfl (fun ls hl => ?_)
  refine lv_aload_n hx hb dL_law_1422 rfl (lv_at hl 3 rfl) ?_
  refine lv_aload_n hx hb dL_law_1423 rfl (lv_at hl 5 rfl) ?_
  refine lv_iload hx hb dL_law_1424 (lv_at hl 1 rfl) ?_
  refine lv_iconst (v := 1) hx hb dL_law_1426 (by decide) ?_
  refine lv_iadd hx hb dL_law_1427 ?_
  refine va_sld hx hb hX hbl hbA hS i1 dL_law_1428 ?_
  refine kI (rV (As := [.int (xs (nI (4 * n) + 1).toNatClampNeg)]) (rest := []) ⟨hx, hb, hml, hown, hts⟩ (c_X5_decode l D cI cL cM _ bb u (xs (nI (4 * n) + 1).toNatClampNeg) Iv9 Iv9_inv H4sh hR.I hR.sz hR.cs) (cwV 1 hts gL_law_X5_decode rfl rfl rfl (by decide +kernel) ⟨(Nat.le_of_ble_eq_true rfl), (Nat.le_of_ble_eq_true rfl)⟩) hE hP hD (segI 36 13) seg13 (lawW_rfC cI cL cM a o bb _ _ _) rfl (rfW_0 cI bb _) rfl hl.1 rfl (Nat.le_of_ble_eq_true rfl) dL_law_1429 ⟨hcl.1, hcl.2⟩) hP hD hS hA (is := (segI 36 13)) (lawW_rfC cI cL cM a o bb _ _ _) (rfW_fst cI bb _ _) (fun H locs hP hD hS => ?_)
  rw [lawW_rfP] at hP hD
  refine lv_topi (fun r9 hr9 => ?_)
  have hC9 := cl_decode hR (xs (nI (4 * n) + 1).toNatClampNeg)
  obtain ⟨k1, k2, k3⟩ := hC9
  refine lv_istore (lv' := [(6, .int r9), (5, .int k9), (4, .int (nI (4 * n))), (3, .ref o), (2, .ref (bb 0)), (1, .ref (a 0)), (0, .ref sb)]) hx hb dL_law_1432 hl (by decide) rfl (fun ls hl => ?_)
  refine lv_aload_n hx hb dL_law_1434 rfl (lv_at hl 4 rfl) ?_
  refine kI (rV (As := []) (rest := []) ⟨hx, hb, hml, hown, hts⟩ (c_X5_thrown l D cI cL cM _ bb _) (cwV 0 hts gL_law_X5_thrown rfl rfl rfl (by decide +kernel) ⟨(Nat.le_of_ble_eq_true rfl), (Nat.le_of_ble_eq_true rfl)⟩) hE hP hD (segI 36 13) seg13 (lawW_rfC cI cL cM a o bb _ _ _) rfl (rfW_0 cI bb _) rfl hl.1 rfl (Nat.le_of_ble_eq_true rfl) dL_law_1435 ⟨hcl.1, hcl.2⟩) hP hD hS hA (is := (segI 36 13)) (lawW_rfC cI cL cM a o bb _ _ _) (rfW_fst cI bb _ _) (fun H locs hP hD hS => ?_)
  rw [lawW_rfP] at hP hD
  refine lv_topi (fun t9 ht9 => ?_)
  refine lv_iload hx hb dL_law_1438 (lv_at hl 1 rfl) ?_
  refine lv_icmp_eq (tgt := 1445) hx hb dL_law_1440 (by decide) (fun _ => ?_) (fun h9 => absurd ((ht9.trans k1).trans hk9.symm) h9)
  refine lv_iload hx hb dL_law_1445 (lv_at hl 1 rfl) ?_
  refine lv_if_ne (tgt := 1462) hx hb dL_law_1447 (by decide) (fun g9 => ?_) (fun g9 => ?_)
  · refine lv_goto (tgt := 1589) hx hb dL_law_1462 (by decide) ?_
    exact nx _ _ _ _ _ _ k3 hP hD hS (lv_sub hl [2, 3, 4, 5, 6] rfl)
  · have g0 : cdDec (xs (nI (4 * n) + 1).toNatClampNeg) = 0 := hk9.symm.trans g9
    refine lv_aload_n hx hb dL_law_1450 rfl (lv_at hl 3 rfl) ?_
    refine lv_iconst (v := 0) hx hb dL_law_1451 (by decide) ?_
    refine lldN hx hb hK hP 35 1 (lawW_35 cI cL cM a o bb _ _ _) rfl 0 (by omega) (Nat.le_of_ble_eq_true rfl) dL_law_1452 ?_
    refine lv_topl (fun v9 hv9 => ?_)
    refine lv_iload hx hb dL_law_1453 (lv_at hl 0 rfl) ?_
    refine lv_i2l hx hb dL_law_1455 rfl ?_
    refine W.lcmp hx hb dL_law_1456 ?_
    refine lv_if_eq (tgt := 1462) hx hb dL_law_1457 (by decide) (fun _ => ?_) (fun h9 => absurd ((lg_cmp_eq _ _).mpr (by rw [hv9, if_pos g0, pk_uLs, k2 g0, hr9])) h9)
    refine lv_goto (tgt := 1589) hx hb dL_law_1462 (by decide) ?_
    exact nx _ _ _ _ _ _ k3 hP hD hS (lv_sub hl [2, 3, 4, 5, 6] rfl)
set_option maxHeartbeats 4000000 in
set_option maxRecDepth 100000 in
theorem lw_outputSize (C : LCx p l s m c sb L xs D cI cL cM sa A) (hn : 4 * n + 4 ≤ L) (hcl : cells + 3 ≤ 601024 ∧ slots + 18 ≤ 7293034) (hR : Rel x u n) (hP : va_P D vwCl (lawW cI cL cM a o bb x f u) H) (hD : va_D A (lawW cI cL cM a o bb x f u)) (hS : va_S A s.heap H locs) (hl : lv_has ls 9 (lvL n sb o a bb)) (nx : NX p l e s m below meth c sb D cI cL cM A a o bb cells slots n Q) : W p l e room_1 s m #[Value.ref sb] below meth c H locs cells slots Q (F0 m 1465 ls []) := by
  obtain ⟨⟨hnt, hx, hb, hml, hown⟩, hts, hEX, hN, hX, hbl, hbA, hA, hL⟩ := C
  have hE := hEX.1
  have hK := hE.1
  have i1 : vp_in (nI (4 * n) + 1) L := sc_in (k := 1) hL hn (by omega)
  have i2 : vp_in (nI (4 * n) + 2) L := sc_in (k := 2) hL hn (by omega)
  have i3 : vp_in (nI (4 * n) + 3) L := sc_in (k := 3) hL hn (by omega)
  refine W.widen (k := cells + 3) (n := slots + 18) (by omega) (by omega) ?_
  refine lv_aload_n hx hb dL_law_1465 rfl (lv_at hl 3 rfl) ?_
  refine kI (rV (As := []) (rest := []) ⟨hx, hb, hml, hown, hts⟩ (c_X4_outputSize l D cI cL cM _ a x  ) (cwV 0 hts gL_law_X4_outputSize rfl rfl rfl (by decide +kernel) ⟨(Nat.le_of_ble_eq_true rfl), (Nat.le_of_ble_eq_true rfl)⟩) hE hP hD (segI 0 35) seg35 (lawW_mxC cI cL cM a o bb _ _ _) rfl (mxW_0 cI cL cM a _) rfl hl.1 rfl (Nat.le_of_ble_eq_true rfl) dL_law_1466 ⟨hcl.1, hcl.2⟩) hP hD hS hA (is := (segI 0 35)) (lawW_mxC cI cL cM a o bb _ _ _) (mxW_fst cI cL cM a _ _) (fun H locs hP hD hS => ?_)
  rw [lawW_mxP] at hP hD
  refine lv_topi (fun p9 hp9 => ?_)
  refine lv_aload_n hx hb dL_law_1469 rfl (lv_at hl 2 rfl) ?_
  refine kI (rV (As := []) (rest := [.int p9]) ⟨hx, hb, hml, hown, hts⟩ (c_X5_outputSize l D cI cL cM _ bb u  ) (cwV 0 hts gL_law_X5_outputSize rfl rfl rfl (by decide +kernel) ⟨(Nat.le_of_ble_eq_true rfl), (Nat.le_of_ble_eq_true rfl)⟩) hE hP hD (segI 36 13) seg13 (lawW_rfC cI cL cM a o bb _ _ _) rfl (rfW_0 cI bb _) rfl hl.1 rfl (Nat.le_of_ble_eq_true rfl) dL_law_1470 ⟨hcl.1, hcl.2⟩) hP hD hS hA (is := (segI 36 13)) (lawW_rfC cI cL cM a o bb _ _ _) (rfW_fst cI bb _ _) (fun H locs hP hD hS => ?_)
  rw [lawW_rfP] at hP hD
  refine lv_topi (fun r9 hr9 => ?_)
  refine lv_icmp_eq (tgt := 1589) hx hb dL_law_1473 (by decide) (fun _ => ?_) (fun h9 => absurd (by rw [hp9, hr9, hR.2.2.2.2.1.1]) h9)
  exact nx _ _ _ _ _ _ (Rel_t 0 hR) hP hD hS (lv_sub hl [0, 1, 2, 3, 4] rfl)
set_option maxHeartbeats 4000000 in
set_option maxRecDepth 100000 in
theorem lw_output (C : LCx p l s m c sb L xs D cI cL cM sa A) (hn : 4 * n + 4 ≤ L) (hcl : cells + 3 ≤ 601024 ∧ slots + 18 ≤ 7293034) (hR : Rel x u n) (hP : va_P D vwCl (lawW cI cL cM a o bb x f u) H) (hD : va_D A (lawW cI cL cM a o bb x f u)) (hS : va_S A s.heap H locs) (hl : lv_has ls 9 (lvL n sb o a bb)) (nx : NX p l e s m below meth c sb D cI cL cM A a o bb cells slots n Q) : W p l e room_1 s m #[Value.ref sb] below meth c H locs cells slots Q (F0 m 1478 ls []) := by
  obtain ⟨⟨hnt, hx, hb, hml, hown⟩, hts, hEX, hN, hX, hbl, hbA, hA, hL⟩ := C
  have hE := hEX.1
  have hK := hE.1
  have i1 : vp_in (nI (4 * n) + 1) L := sc_in (k := 1) hL hn (by omega)
  have i2 : vp_in (nI (4 * n) + 2) L := sc_in (k := 2) hL hn (by omega)
  have i3 : vp_in (nI (4 * n) + 3) L := sc_in (k := 3) hL hn (by omega)
  refine lv_aload_n hx hb dL_law_1478 rfl (lv_at hl 3 rfl) ?_
  refine lv_aload_n hx hb dL_law_1479 rfl (lv_at hl 4 rfl) ?_
  refine lv_iload hx hb dL_law_1480 (lv_at hl 0 rfl) ?_
  refine lv_iconst (v := 1) hx hb dL_law_1482 (by decide) ?_
  refine lv_iadd hx hb dL_law_1483 ?_
  refine va_sld hx hb hX hbl hbA hS i1 dL_law_1484 ?_
  refine lv_aload_n hx hb dL_law_1485 rfl (lv_at hl 1 rfl) ?_
  refine kW (As := [.ref (a 0), .int (xs (nI (4 * n) + 1).toNatClampNeg), .ref o]) (rest := []) ⟨hx, hb, hml, hown, hts⟩ (c_L_output l hnt D cI cL cM _ sa a o x f (xs (nI (4 * n) + 1).toNatClampNeg) hR.dc) (vx_cwSW 3 hts gL_law_L_output rfl rfl rfl (by decide +kernel) ⟨(Nat.le_of_ble_eq_true rfl), (Nat.le_of_ble_eq_true rfl)⟩) hEX hN hP hD hS hA (segI 0 36) seg36 (lawW_wrC cI cL cM a o bb x f u) (wrW_fst cI cL cM a o _ _ _ _) rfl hl.1 rfl (Nat.le_of_ble_eq_true rfl) dL_law_1486 ⟨hcl.1, hcl.2⟩ (fun H locs hP hD hS => ?_)
  rw [lawW_wrP] at hP hD
  refine lv_topi (fun k9 hk9 => ?_)
  refine lv_istore (lv' := [(5, .int k9), (4, .int (nI (4 * n))), (3, .ref o), (2, .ref (bb 0)), (1, .ref (a 0)), (0, .ref sb)]) hx hb dL_law_1489 hl (by decide) rfl (fun ls hl => ?_)
  refine lv_aload_n hx hb dL_law_1491 rfl (lv_at hl 3 rfl) ?_
  refine lv_aload_n hx hb dL_law_1492 rfl (lv_at hl 5 rfl) ?_
  refine lv_iload hx hb dL_law_1493 (lv_at hl 1 rfl) ?_
  refine lv_iconst (v := 1) hx hb dL_law_1495 (by decide) ?_
  refine lv_iadd hx hb dL_law_1496 ?_
  refine va_sld hx hb hX hbl hbA hS i1 dL_law_1497 ?_
  refine kI (rV (As := [.int (xs (nI (4 * n) + 1).toNatClampNeg)]) (rest := []) ⟨hx, hb, hml, hown, hts⟩ (c_X5_output l D cI cL cM _ bb u (xs (nI (4 * n) + 1).toNatClampNeg) hR.mk) (cwV 1 hts gL_law_X5_output rfl rfl rfl (by decide +kernel) ⟨(Nat.le_of_ble_eq_true rfl), (Nat.le_of_ble_eq_true rfl)⟩) hE hP hD (segI 36 13) seg13 (lawW_rfC cI cL cM a o bb _ _ _) rfl (rfW_0 cI bb _) rfl hl.1 rfl (Nat.le_of_ble_eq_true rfl) dL_law_1498 ⟨hcl.1, hcl.2⟩) hP hD hS hA (is := (segI 36 13)) (lawW_rfC cI cL cM a o bb _ _ _) (rfW_fst cI bb _ _) (fun H locs hP hD hS => ?_)
  rw [lawW_rfP] at hP hD
  refine lv_topi (fun r9 hr9 => ?_)
  have hC9 := cl_place hR hR.2.2.2.2.1 (Nat.le_trans hR.mk (Nat.le_of_ble_eq_true rfl)) (xs (nI (4 * n) + 1).toNatClampNeg)
  obtain ⟨k1, k2, k3⟩ := hC9
  refine lv_istore (lv' := [(6, .int r9), (5, .int k9), (4, .int (nI (4 * n))), (3, .ref o), (2, .ref (bb 0)), (1, .ref (a 0)), (0, .ref sb)]) hx hb dL_law_1501 hl (by decide) rfl (fun ls hl => ?_)
  refine lv_aload_n hx hb dL_law_1503 rfl (lv_at hl 4 rfl) ?_
  refine kI (rV (As := []) (rest := []) ⟨hx, hb, hml, hown, hts⟩ (c_X5_thrown l D cI cL cM _ bb _) (cwV 0 hts gL_law_X5_thrown rfl rfl rfl (by decide +kernel) ⟨(Nat.le_of_ble_eq_true rfl), (Nat.le_of_ble_eq_true rfl)⟩) hE hP hD (segI 36 13) seg13 (lawW_rfC cI cL cM a o bb _ _ _) rfl (rfW_0 cI bb _) rfl hl.1 rfl (Nat.le_of_ble_eq_true rfl) dL_law_1504 ⟨hcl.1, hcl.2⟩) hP hD hS hA (is := (segI 36 13)) (lawW_rfC cI cL cM a o bb _ _ _) (rfW_fst cI bb _ _) (fun H locs hP hD hS => ?_)
  rw [lawW_rfP] at hP hD
  refine lv_topi (fun t9 ht9 => ?_)
  refine lv_iload hx hb dL_law_1507 (lv_at hl 1 rfl) ?_
  refine lv_icmp_eq (tgt := 1514) hx hb dL_law_1509 (by decide) (fun _ => ?_) (fun h9 => absurd ((ht9.trans k1).trans hk9.symm) h9)
  refine lv_iload hx hb dL_law_1514 (lv_at hl 1 rfl) ?_
  refine lv_if_ne (tgt := 1531) hx hb dL_law_1516 (by decide) (fun g9 => ?_) (fun g9 => ?_)
  · refine lv_goto (tgt := 1589) hx hb dL_law_1531 (by decide) ?_
    exact nx _ _ _ _ _ _ k3 hP hD hS (lv_sub hl [2, 3, 4, 5, 6] rfl)
  · have g0 : cdPlc (x_de x) (xs (nI (4 * n) + 1).toNatClampNeg) = 0 := hk9.symm.trans g9
    refine lv_aload_n hx hb dL_law_1519 rfl (lv_at hl 3 rfl) ?_
    refine lv_iconst (v := 0) hx hb dL_law_1520 (by decide) ?_
    refine lldN hx hb hK hP 35 1 (lawW_35 cI cL cM a o bb _ _ _) rfl 0 (by omega) (Nat.le_of_ble_eq_true rfl) dL_law_1521 ?_
    refine lv_topl (fun v9 hv9 => ?_)
    refine lv_iload hx hb dL_law_1522 (lv_at hl 0 rfl) ?_
    refine lv_i2l hx hb dL_law_1524 rfl ?_
    refine W.lcmp hx hb dL_law_1525 ?_
    refine lv_if_eq (tgt := 1531) hx hb dL_law_1526 (by decide) (fun _ => ?_) (fun h9 => absurd ((lg_cmp_eq _ _).mpr (by rw [hv9, if_pos g0, pk_uLs, k2 g0, hr9])) h9)
    refine lv_goto (tgt := 1589) hx hb dL_law_1531 (by decide) ?_
    exact nx _ _ _ _ _ _ k3 hP hD hS (lv_sub hl [2, 3, 4, 5, 6] rfl)
set_option maxHeartbeats 4000000 in
set_option maxRecDepth 100000 in
theorem lw_digest (C : LCx p l s m c sb L xs D cI cL cM sa A) (hn : 4 * n + 4 ≤ L) (hcl : cells + 3 ≤ 601024 ∧ slots + 18 ≤ 7293034) (hR : Rel x u n) (hP : va_P D vwCl (lawW cI cL cM a o bb x f u) H) (hD : va_D A (lawW cI cL cM a o bb x f u)) (hS : va_S A s.heap H locs) (hl : lv_has ls 9 (lvL n sb o a bb)) (nx : NX p l e s m below meth c sb D cI cL cM A a o bb cells slots n Q) : W p l e room_1 s m #[Value.ref sb] below meth c H locs cells slots Q (F0 m 1575 ls []) := by
  obtain ⟨⟨hnt, hx, hb, hml, hown⟩, hts, hEX, hN, hX, hbl, hbA, hA, hL⟩ := C
  have hE := hEX.1
  have hK := hE.1
  have i1 : vp_in (nI (4 * n) + 1) L := sc_in (k := 1) hL hn (by omega)
  have i2 : vp_in (nI (4 * n) + 2) L := sc_in (k := 2) hL hn (by omega)
  have i3 : vp_in (nI (4 * n) + 3) L := sc_in (k := 3) hL hn (by omega)
  refine W.widen (k := cells + 3) (n := slots + 18) (by omega) (by omega) ?_
  refine lv_aload_n hx hb dL_law_1575 rfl (lv_at hl 3 rfl) ?_
  refine kL (rV (As := []) (rest := []) ⟨hx, hb, hml, hown, hts⟩ (c_X4_digest l D cI cL cM _ a x  hR.n6 hR.tc hR.ec hR.dc) (cwV 0 hts gL_law_X4_digest rfl rfl rfl (by decide +kernel) ⟨(Nat.le_of_ble_eq_true rfl), (Nat.le_of_ble_eq_true rfl)⟩) hE hP hD (segI 0 35) seg35 (lawW_mxC cI cL cM a o bb _ _ _) rfl (mxW_0 cI cL cM a _) rfl hl.1 rfl (Nat.le_of_ble_eq_true rfl) dL_law_1576 ⟨hcl.1, hcl.2⟩) hP hD hS hA (is := (segI 0 35)) (lawW_mxC cI cL cM a o bb _ _ _) (mxW_fst cI cL cM a _ _) (fun H locs hP hD hS => ?_)
  rw [lawW_mxP] at hP hD
  refine lv_topl (fun p9 hp9 => ?_)
  refine lv_aload_n hx hb dL_law_1579 rfl (lv_at hl 2 rfl) ?_
  refine kL (rV (As := []) (rest := [.long p9]) ⟨hx, hb, hml, hown, hts⟩ (c_X5_digest l D cI cL cM _ bb u  hR.rn6 hR.sz hR.cs hR.mk) (cwV 0 hts gL_law_X5_digest rfl rfl rfl (by decide +kernel) ⟨(Nat.le_of_ble_eq_true rfl), (Nat.le_of_ble_eq_true rfl)⟩) hE hP hD (segI 36 13) seg13 (lawW_rfC cI cL cM a o bb _ _ _) rfl (rfW_0 cI bb _) rfl hl.1 rfl (Nat.le_of_ble_eq_true rfl) dL_law_1580 ⟨hcl.1, hcl.2⟩) hP hD hS hA (is := (segI 36 13)) (lawW_rfC cI cL cM a o bb _ _ _) (rfW_fst cI bb _ _) (fun H locs hP hD hS => ?_)
  rw [lawW_rfP] at hP hD
  refine lv_topl (fun r9 hr9 => ?_)
  refine W.lcmp hx hb dL_law_1583 ?_
  refine lv_if_eq (tgt := 1589) hx hb dL_law_1584 (by decide) (fun _ => ?_) (fun h9 => absurd ((lg_cmp_eq _ _).mpr (by rw [hp9, hr9]; exact dig_R hR.1 hR.2.2.1.1 hR.2.2.2.1.1 hR.2.2.2.2.1 hR.sz hR.2.2.2.1.2.2 hR.mk)) h9)
  exact nx _ _ _ _ _ _ (Rel_t 0 hR) hP hD hS (lv_sub hl [0, 1, 2, 3, 4] rfl)
end LAWC
