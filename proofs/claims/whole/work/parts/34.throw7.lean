/-! ===== the same, where callee and caller speak of one world ===== -/
section THR4
variable {p : Program} {l : Launch} {e : Env} {R : Room} {s : State} {m : MethodId} {args : Array Value} {below : List Frame} {meth : Method} {c : Code} {H : Heap} {locs : List Loc} {cells slots : Nat} {Q : State → Prop}
variable {pc : Nat} {rest st0 : List Value} {ls : Array Slot} {D : va_G} {A : Nat → Prop} {ws w1 : va_W} {H0 : Heap} {OK : Prop} {TH : String → Prop}
theorem kIxa {r : Int32} {a : Array Value} (hr : vx_Run p l e R s m args below meth c H locs cells slots 1 6 (F0 m pc ls st0) rest (va_Qi (fun x (_ : Unit) => x = r ∧ OK) (fun _ t => hq D A w1 t) A a) (vx_X (fun (_ : Unit) => True) (fun E _ t => TH E ∧ hq D A ws t) A) A) (hS : va_S A H0 H locs)
    (kx : ∀ (E : String) (ce : Cell) (q9 : Addr) (H : Heap) (locs : List Loc), TH E → va_P D vwCl ws H → va_D A ws → va_S A H0 H locs → H[q9]? = some ce → ce.vm = .none → s.vm.findClass E = some ce.cls → vx_W p l e R s m args below meth c H locs (cells + 1) (slots + 6) Q (F0 m pc ls rest) q9)
    (kk : ∀ (H : Heap) (locs : List Loc), OK → va_P D vwCl w1 H → va_D A w1 → va_S A H0 H locs → W p l e R s m args below meth c H locs (cells + 1) (slots + 6) Q (F0 m (pc + 3) ls (.int r :: rest))) : W p l e R s m args below meth c H locs cells slots Q (F0 m pc ls st0) :=
  vx_calli hr hS (fun _ _ h => h) (fun _ h => h) (fun _ _ h => h)
    (fun E ce q9 _ t H1 locs1 ht _ _ hB _ _ hS1 h1 h2 h3 => kx E ce q9 H1 locs1 hB.1 (by rw [← ht]; exact hB.2.1) hB.2.2 hS1 h1 h2 h3)
    (fun r1 _ t H1 locs1 ht _ hp hB _ _ hS1 => by
      obtain ⟨rfl, hok⟩ := hp
      exact kk H1 locs1 hok (by rw [← ht]; exact hB.1) hB.2 hS1)
theorem kVxa {a : Array Value} (hr : vx_Run p l e R s m args below meth c H locs cells slots 1 6 (F0 m pc ls st0) rest (va_Qv (fun (_ : Unit) => OK) (fun _ t => hq D A w1 t) A a) (vx_X (fun (_ : Unit) => True) (fun E _ t => TH E ∧ hq D A ws t) A) A) (hS : va_S A H0 H locs)
    (kx : ∀ (E : String) (ce : Cell) (q9 : Addr) (H : Heap) (locs : List Loc), TH E → va_P D vwCl ws H → va_D A ws → va_S A H0 H locs → H[q9]? = some ce → ce.vm = .none → s.vm.findClass E = some ce.cls → vx_W p l e R s m args below meth c H locs (cells + 1) (slots + 6) Q (F0 m pc ls rest) q9)
    (kk : ∀ (H : Heap) (locs : List Loc), OK → va_P D vwCl w1 H → va_D A w1 → va_S A H0 H locs → W p l e R s m args below meth c H locs (cells + 1) (slots + 6) Q (F0 m (pc + 3) ls rest)) : W p l e R s m args below meth c H locs cells slots Q (F0 m pc ls st0) :=
  vx_callv hr hS (fun _ _ h => h) (fun _ h => h) (fun _ _ h => h)
    (fun E ce q9 _ t H1 locs1 ht _ _ hB _ _ hS1 h1 h2 h3 => kx E ce q9 H1 locs1 hB.1 (by rw [← ht]; exact hB.2.1) hB.2.2 hS1 h1 h2 h3)
    (fun _ t H1 locs1 ht _ hp hB _ _ hS1 => kk H1 locs1 hp (by rw [← ht]; exact hB.1) hB.2 hS1)
end THR4
