set_option maxHeartbeats 4000000 in
set_option maxRecDepth 100000 in
theorem c_X4_requireByte (l : Launch) (hnt : l.stackTraces = false) (D : va_G) (cI cL cM : ClassId) (A : Nat → Prop) (sa : Nat → Nat) (ws : va_W) (y : Int32) : mVx l yX4_requireByte wsX4_requireByte ({ frames := 6, cells := 1, slots := 6, locals := 90 }) D (tB cI cL cM) A sa [.int y] ws ws (¬ isI y 0 255 = 0) (fun E => E = IAE ∧ isI y 0 255 = 0) := by
  refine vx_ofW (cc := cX4_requireByte) (maxL := 1) (ret := none) (by decide) rfl ?_
  intro p e s m args below meth c s₁ B hml htab hv
  obtain ⟨rfl, hP, hEX, hD, hA⟩ := hv
  have hE := hEX.1
  have hx := B.exec
  have hb := B.bytes
  have hr := B.returns
  have hts := atoms_spec (ws := wsX4_requireByte) B.pre
  have hown : s.vm.findClass RX4 = some m.cls := findClass_of_methodNamed B.named
  have hlocks := B.notSynchronized
  have hS : va_S A s.heap s.heap [] := va_S.rf
  have hl := lv_entry ([.int y]) (n := 1) (Nat.le_of_ble_eq_true rfl)
  rw [lg_entry_eq]
  generalize (lg_sl ([.int y]) ++ List.replicate (1 - (lg_sl ([.int y])).length) Slot.unset).toArray = ls at hl ⊢
  have hl : lv_has ls 1 [(0, .int y)] := hl
  have hat : ∀ w ∈ vx_atS RX4 42 IAE xNames, w.before #[Value.int y] s = true := vx_hat (fun w hw => hts w (List.mem_cons_of_mem _ (List.mem_append_right _ hw))) iae_bad (xW_use hEX.2.2.2.2 _)
  have thr : isI y 0 255 = 0 → W p l e (headSpec wsX4_requireByte ({ frames := 6, cells := 1, slots := 6, locals := 90 })).room s m #[Value.int y] below meth c s.heap [] 0 0 (vx_MQ below (va_Qv (fun (_ : Unit) => ¬ isI y 0 255 = 0) (fun _ t => hq D A ws t) A) (vx_X (fun (_ : Unit) => True) (fun E _ t => (E = IAE ∧ isI y 0 255 = 0) ∧ hq D A ws t) A) #[Value.int y] s 1 6 A) (F0 m 11 ls []) := fun h0 =>
    vx_throwS (text := "value is not 0 to 255") (names := xNames) (sa := sa 213) (A := A) hx hb hnt hown (by decide) (by decide) (hts _ (List.mem_of_getElem? (i := 1) rfl)) (hts _ (List.mem_of_getElem? (i := 2) rfl)) (hEX.2.2.2.1 (213, "value is not 0 to 255") (by decide)) hat iae_good hEX.2.1 hEX.2.2.1 hS (hl.1.trans hml.symm) dX4_requireByte_11 dX4_requireByte_14 dX4_requireByte_15 dX4_requireByte_17 dX4_requireByte_20 (fun x hx9 => (htab x hx9).elim) (Nat.le_of_ble_eq_true rfl) (Nat.le_of_ble_eq_true rfl) (Nat.le_of_ble_eq_true rfl) (Nat.le_of_ble_eq_true rfl) hlocks (fun t hvm hz hk => ⟨(), trivial, ⟨⟨rfl, h0⟩, kept_P hP hk, hD⟩, hz, fun q h1 _ => hk q h1⟩) (fun z hz => by cases hz) (Nat.le_refl _) (Nat.le_refl _)
  refine lv_iload_n hx hb dX4_requireByte_0 rfl (lv_at hl 0 rfl) ?_
  refine lv_if_lt (tgt := 11) hx hb dX4_requireByte_1 (by decide) (fun c1 => ?_) (fun c1 => ?_)
  · exact thr (if_pos c1)
  · refine lv_iload_n hx hb dX4_requireByte_4 rfl (lv_at hl 0 rfl) ?_
    refine lv_sipush (v := 256) hx hb dX4_requireByte_5 (by decide) ?_
    refine lv_icmp_lt (tgt := 21) hx hb dX4_requireByte_8 (by decide) (fun c2 => ?_) (fun c2 => ?_)
    · have h1 : ¬ isI y 0 255 = 0 := by
        unfold isI
        rw [if_neg c1, if_neg (fun h9 => by simp only [Int32.lt_iff_toInt_lt, tI255, tI256] at h9 c2; omega)]
        decide
      refine vx_ret ?_
      refine W.widen (k := 1) (n := 6) (Nat.zero_le _) (Nat.zero_le _) ?_
      exact W.vret hx hb hr (fun t ht hW => ⟨⟨(), rfl, h1, by rw [ht]; exact hP, hD⟩, hS.F ht⟩) hS.2.2 dX4_requireByte_21
    · refine thr ?_
      unfold isI
      rw [if_neg c1, if_pos (by simp only [Int32.lt_iff_toInt_lt, tI255, tI256] at c2 ⊢; omega)]
