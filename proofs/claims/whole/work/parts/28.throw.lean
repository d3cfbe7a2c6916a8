/-! ===== methods that throw ===== -/
def strsB : List (Nat × String) := [(40, "order is not 0 to 3"), (211, "rate is not 2 to 7"), (48, "t is not 4 to 9"), (56, "there are 6 models"), (63, "there is no model"), (205, "there is no such model"), (80, "many is not 1 to 8"), (215, "the text would have more than 80 bytes"), (213, "value is not 0 to 255"), (94, "many is not 1 to 80"), (223, "many is negative, or greater than the size"), (221, "there is no such place"), (129, "there is no such counter"), (136, "phase is not 0 to 7"), (147, "back is not 0 to 2"), (181, "many is not 0 to 80")]
abbrev xNames : List String := ["java/lang/RuntimeException", "java/lang/Exception"]
abbrev IAE : String := "java/lang/IllegalArgumentException"
abbrev ISE : String := "java/lang/IllegalStateException"
abbrev IOB : String := "java/lang/IndexOutOfBoundsException"
/-- the words of a throw that no method's own list may hold -/
def xW : List Cond := [.declares (Bundle.initS "java/lang/RuntimeException"), .declares (Bundle.initS "java/lang/Exception"), .declares (Bundle.initS Bundle.tN), .castable IAE IAE, .castable ISE ISE, .castable IOB IOB]
theorem xW_tab : ∀ w ∈ xW, w.onTables = true := by decide +kernel
/-- what a throw needs beside: Throwable's two statics, the texts, those words -/
def evX (D : va_G) (T : List (ClassId × FieldType)) (A : Nat → Prop) (sa : Nat → Nat) (U : State) : Prop := ev D T U ∧ vx_Zq Bundle.tN "UNASSIGNED_STACK" Bundle.steD A U U.heap ∧ vx_Zq Bundle.tN "SUPPRESSED_SENTINEL" Bundle.listD A U U.heap ∧ (∀ q ∈ strsB, vk_R RX4 q.1 q.2 (sa q.1) U) ∧ ∀ w ∈ xW, va_Nw w U
def hoX (D : va_G) (T : List (ClassId × FieldType)) (A : Nat → Prop) (sa : Nat → Nat) (ws : va_W) (U : State) : Prop := va_P D vwCl ws U.heap ∧ evX D T A sa U ∧ va_D A ws ∧ ∀ q, U.heap.size ≤ q → A q
def mVx (l : Launch) (y : MethodName) (wy : List Cond) (rm : Room) (D : va_G) (T : List (ClassId × FieldType)) (A : Nat → Prop) (sa : Nat → Nat) (av : List Value) (ws ws' : va_W) (OK : Prop) (TH : String → Prop) : Prop :=
  vx_Met l y wy rm (va_Pc av (hoX D T A sa ws)) (va_Qv (fun (_ : Unit) => OK) (fun _ t => hq D A ws' t) A) (vx_X (fun (_ : Unit) => True) (fun E _ t => TH E ∧ hq D A ws t) A) 1 6 A
theorem iae_good : ∀ w ∈ Cond.classLink RX4 38 IAE :: Cond.initialized IAE :: vx_atS RX4 42 IAE xNames, vx_ot w = true := by decide +kernel
theorem ise_good : ∀ w ∈ Cond.classLink RX4 54 ISE :: Cond.initialized ISE :: vx_atS RX4 58 ISE xNames, vx_ot w = true := by decide +kernel
theorem iob_good : ∀ w ∈ Cond.classLink RX4 127 IOB :: Cond.initialized IOB :: vx_atS RX4 131 IOB xNames, vx_ot w = true := by decide +kernel
theorem iae_bad : ∀ w ∈ (vx_atS RX4 42 IAE xNames).filter (fun w => !goodWord w), w ∈ xW := by decide +kernel
theorem ise_bad : ∀ w ∈ (vx_atS RX4 58 ISE xNames).filter (fun w => !goodWord w), w ∈ xW := by decide +kernel
theorem iob_bad : ∀ w ∈ (vx_atS RX4 131 IOB xNames).filter (fun w => !goodWord w), w ∈ xW := by decide +kernel
theorem xW_use {U : State} (h : ∀ w ∈ xW, va_Nw w U) (a : Array Value) : ∀ w ∈ xW, w.before a U = true := fun w hw => va_Nw.use (xW_tab w hw) (h w hw)
theorem kept_P {D : va_G} {ws : va_W} {H : Heap} {U : State} (hP : va_P D vwCl ws H) (hk : ∀ q : Nat, q < H.size → U.heap[q]? = H[q]?) : va_P D vwCl ws U.heap := fun k q hq => (hP k q hq).kept (hk q.1 (hP k q hq).lt)
set_option maxHeartbeats 4000000 in
set_option maxRecDepth 100000 in
theorem c_X4_requireRate (l : Launch) (hnt : l.stackTraces = false) (D : va_G) (cI cL cM : ClassId) (A : Nat → Prop) (sa : Nat → Nat) (ws : va_W) (y : Int32) : mVx l yX4_requireRate wsX4_requireRate ({ frames := 6, cells := 1, slots := 6, locals := 90 }) D (tB cI cL cM) A sa [.int y] ws ws (¬ isI y 2 7 = 0) (fun E => E = IAE ∧ isI y 2 7 = 0) := by
  refine vx_ofW (cc := cX4_requireRate) (maxL := 1) (ret := none) (by decide) rfl ?_
  intro p e s m args below meth c s₁ B hml htab hv
  obtain ⟨rfl, hP, hEX, hD, hA⟩ := hv
  have hE := hEX.1
  have hx := B.exec
  have hb := B.bytes
  have hr := B.returns
  have hts := atoms_spec (ws := wsX4_requireRate) B.pre
  have hown : s.vm.findClass RX4 = some m.cls := findClass_of_methodNamed B.named
  have hlocks := B.notSynchronized
  have hS : va_S A s.heap s.heap [] := va_S.rf
  have hl := lv_entry ([.int y]) (n := 1) (Nat.le_of_ble_eq_true rfl)
  rw [lg_entry_eq]
  generalize (lg_sl ([.int y]) ++ List.replicate (1 - (lg_sl ([.int y])).length) Slot.unset).toArray = ls at hl ⊢
  have hl : lv_has ls 1 [(0, .int y)] := hl
  have hat : ∀ w ∈ vx_atS RX4 42 IAE xNames, w.before #[Value.int y] s = true := vx_hat (fun w hw => hts w (List.mem_cons_of_mem _ (List.mem_append_right _ hw))) iae_bad (xW_use hEX.2.2.2.2 _)
  have thr : isI y 2 7 = 0 → W p l e (headSpec wsX4_requireRate ({ frames := 6, cells := 1, slots := 6, locals := 90 })).room s m #[Value.int y] below meth c s.heap [] 0 0 (vx_MQ below (va_Qv (fun (_ : Unit) => ¬ isI y 2 7 = 0) (fun _ t => hq D A ws t) A) (vx_X (fun (_ : Unit) => True) (fun E _ t => (E = IAE ∧ isI y 2 7 = 0) ∧ hq D A ws t) A) #[Value.int y] s 1 6 A) (F0 m 11 ls []) := fun h0 =>
    vx_throwS (text := "rate is not 2 to 7") (names := xNames) (sa := sa 211) (A := A) hx hb hnt hown (by decide) (by decide) (hts _ (List.mem_of_getElem? (i := 1) rfl)) (hts _ (List.mem_of_getElem? (i := 2) rfl)) (hEX.2.2.2.1 (211, "rate is not 2 to 7") (by decide)) hat iae_good hEX.2.1 hEX.2.2.1 hS (hl.1.trans hml.symm) dX4_requireRate_11 dX4_requireRate_14 dX4_requireRate_15 dX4_requireRate_17 dX4_requireRate_20 (fun x hx9 => (htab x hx9).elim) (Nat.le_of_ble_eq_true rfl) (Nat.le_of_ble_eq_true rfl) (Nat.le_of_ble_eq_true rfl) (Nat.le_of_ble_eq_true rfl) hlocks (fun t hvm hz hk => ⟨(), trivial, ⟨⟨rfl, h0⟩, kept_P hP hk, hD⟩, hz, fun q h1 _ => hk q h1⟩) (fun z hz => by cases hz) (Nat.le_refl _) (Nat.le_refl _)
  refine lv_iload_n hx hb dX4_requireRate_0 rfl (lv_at hl 0 rfl) ?_
  refine lv_iconst (v := 2) hx hb dX4_requireRate_1 (by decide) ?_
  refine lv_icmp_lt (tgt := 11) hx hb dX4_requireRate_2 (by decide) (fun c1 => ?_) (fun c1 => ?_)
  · exact thr (if_pos c1)
  · refine lv_iload_n hx hb dX4_requireRate_5 rfl (lv_at hl 0 rfl) ?_
    refine lv_bipush (v := 7) hx hb dX4_requireRate_6 (by decide) ?_
    refine lv_icmp_le (tgt := 21) hx hb dX4_requireRate_8 (by decide) (fun c2 => ?_) (fun c2 => ?_)
    · have h1 : ¬ isI y 2 7 = 0 := by
        unfold isI
        rw [if_neg c1, if_neg (fun h9 => by simp only [Int32.lt_iff_toInt_lt, Int32.le_iff_toInt_le] at h9 c2; omega)]
        decide
      refine vx_ret ?_
      refine W.widen (k := 1) (n := 6) (Nat.zero_le _) (Nat.zero_le _) ?_
      exact W.vret hx hb hr (fun t ht hW => ⟨⟨(), rfl, h1, by rw [ht]; exact hP, hD⟩, hS.F ht⟩) hS.2.2 dX4_requireRate_21
    · refine thr ?_
      unfold isI
      rw [if_neg c1, if_pos (by simp only [Int32.lt_iff_toInt_lt, Int32.le_iff_toInt_le] at c2 ⊢; omega)]
