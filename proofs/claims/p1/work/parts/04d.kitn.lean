section NSW
variable {p : Program} {l : Launch} {e : Env} {R : Room} {s : State} {m : MethodId} {args : Array Value} {below : List Frame} {meth : Method} {c : Code} {H : Heap} {locs : List Loc} {cells slots : Nat} {A : Nat → Prop} {G : va_G} {sa : Nat → Nat} {cc : ByteArray} {pc : Nat} {ls : Array Slot} {rest : List Value} {post : Option Value → va_W → Prop} {px : String → Prop}
theorem kx_throwN {ik is ic : Nat} {text : String} (hx : p.tables.exec = Jvm.exec) (hb : c.code = cc) (hlst : l.stackTraces = false) (hown : s.vm.findClass RX11 = some m.cls) (hU : ∀ w ∈ UU, w.before args s = true) (uk : Cond.classLink RX11 ik eNS ∈ UU) (ui : Cond.initialized eNS ∈ UU) (hs : (is, text) ∈ xstrs) (hat : ∀ w ∈ xaNSf RX11 ic, w ∈ UU ∨ w ∈ xws) (hZ : xU sa A s s.heap) (hS : va_S A s.heap H locs) (hls : ls.size = c.maxLocals)
    (d0 : decode cc pc = .ok (.new ik, 3)) (d3 : decode cc (pc + 3) = .ok (.dup, 1)) (d4 : decode cc (pc + 4) = .ok (.ldc is, 2)) (d6 : decode cc (pc + 6) = .ok (.invokespecial ic, 3)) (d9 : decode cc (pc + 9) = .ok (.athrow, 1)) (hnt : ∀ x ∈ c.exceptionTable.toList, False) (h1 : Nat.ble 6 R.frames = true) (h2 : Nat.ble ((rest.map fun v => v.category).sum + 82) R.locals = true) (h3 : Nat.ble (cells + 1) R.cells = true) (h4 : Nat.ble (slots + 6) R.slots = true) (hlocks : meth.locks = false) (hpx : px eNS) :
    W p l e R s m args below meth c H locs cells slots (vx_MQ below (kt_Q G post A) (kx_X px A) args s R.cells R.slots A) (F0 m pc ls rest) := by
  intro T hT X
  have htr : e.platform.stackTraces = false := (show e.platform.stackTraces = l.stackTraces by rw [X.admits.platform]).trans hlst
  have Y := vx_rebase X (R' := { frames := R.frames, locals := R.locals, cells := 1, slots := 6 }) (Nat.le_refl _) (Nat.le_refl _) (Nat.le_of_ble_eq_true h3) (Nat.le_of_ble_eq_true h4)
  obtain ⟨s', hA⟩ : ∃ z, z = (T.setVm s.vm).setFrames (.invoking m args :: below) := ⟨_, rfl⟩
  rw [← hA] at Y
  have hvm : s'.vm = s.vm := by rw [hA]; rfl
  have hhp : s'.heap = H := by rw [hA]; exact hT
  have hW0 : s.WarmedH s'.vm := by rw [hvm]; exact State.WarmedH.refl s
  have hot : ∀ w, w ∈ UU ∨ w ∈ xws → w.before args s' = true := fun w h => vx_ot_at hW0 hvm.symm (h.elim (fun h => by simp [vx_ot, uu_good h]) (fun h => by simp [vx_ot, (xws_ok w h).1])) (h.elim (fun h => hU w h) (fun h => va_Nw.use (xws_ok w h).1 (hZ.2.2.2.1 w h)))
  have hU' : vx_Zq Bundle.tN "UNASSIGNED_STACK" Bundle.steD A s' s'.heap := by rw [hhp]; exact vx_Zq.moved hW0.alike (hZ.1.kept hS.2.1)
  have hN' : vx_Zq Bundle.tN "SUPPRESSED_SENTINEL" Bundle.listD A s' s'.heap := by rw [hhp]; exact vx_Zq.moved hW0.alike (hZ.2.1.kept hS.2.1)
  have h : ∀ w ∈ xaNS RX11 ic, w.before args s' = true := vx_own (fun w hw => hot w (hat w hw)) (vx_isRefq hU'.1) (vx_isRefq hN'.1) hU'.2.word hN'.2.word
  have hown' : s'.vm.findClass RX11 = some m.cls := by rw [hvm]; exact hown
  have hins : (Cond.instantiable eNS 6).before args s' = true := h _ (by simp [xaNS])
  obtain ⟨vm₁, cX, kX, hfX, hkX, -, -, X₁, st1⟩ := Y.newCold hx (own := RX11) (C := eNS) (index := ik) (n := 6) hown' (hot _ (Or.inl uk)) hins (hot _ (Or.inl ui))
    (g := F0 m pc ls rest) rfl (by rw [hb]; exact d0) (Nat.le_refl _) (Nat.le_refl _)
  generalize hT1 : (T.setVm vm₁).pushCell { cls := cX, slots := kX.instanceTypes.map defaultValue, vm := .none } = T1 at X₁ st1
  have hcat : (Value.ref T.heap.size).category = 1 := rfl
  have hcellA : T1.heap[T.heap.size]? = some (freshCell cX kX) := by rw [← hT1]; exact State.heap_pushCell_size _ _
  have d3' : decode c.code (pc + 3) = .ok (.dup, 1) := by rw [hb]; exact d3
  have d4' : decode c.code (pc + 4) = .ok (.ldc is, 2) := by rw [hb]; exact d4
  have hstr' : vk_R RX11 is text (sa is) s' := vk_R.warm hW0 (hZ.2.2.2.2 _ hs)
  have h2' := Nat.le_of_ble_eq_true h2
  obtain ⟨U, hsteps, hrun, hend, hW, hsame, ce, hce, hcv, hcl0⟩ := lx_ctorNS X₁ hx htr (own := RX11) (ic := ic) hown' h (fun x hx => nomatch hx) hfX hkX hcellA (by rw [hhp, hT]; exact Nat.le_refl _) (msg := .ref (sa is)) rfl
    (g := { method := m, pc := pc + 6, locals := ls, stack := .ref (sa is) :: .ref T.heap.size :: .ref T.heap.size :: rest, locked := none }) rfl hls rfl rfl (rest := rest) rfl
    (by rw [hb]; exact d6) (by rw [hb]; exact d9) (fun x h => (hnt x h).elim) (Nat.le_of_ble_eq_true h1) (by simp only [List.map_cons, List.sum_cons, hcat]; have : 2 * ({ method := m, pc := pc + 6, locals := ls, stack := .ref (sa is) :: .ref T.heap.size :: .ref T.heap.size :: rest, locked := none } : JFrame).monitorRoom = 0 := rfl; omega) hlocks
  obtain ⟨f1, f2⟩ := vx_frame hsame
  rw [hhp] at f1 f2
  have hWs : s.WarmedH U.vm := State.WarmedH.trans hW0 hW
  have hcl : s.vm.findClass eNS = some ce.cls := by rw [hvm] at hcl0; exact hcl0
  have hall : s.sameButNew ({ U with vm := s.vm } : State) locs R.cells R.slots := by
    subst hA
    obtain ⟨e1, e2⟩ := hsame
    rw [State.setFrames_setFrames] at e1
    have h2 : (T.setVm s.vm).sameButNew ({ U with vm := s.vm } : State) [] (0 + 1) (0 + 6) := ⟨e1, e2⟩
    have h3' := X.same.trans h2
    rw [List.append_nil] at h3'
    exact h3'.mono (Nat.le_of_ble_eq_true h3) (Nat.le_of_ble_eq_true h4)
  refine ⟨U, ?_, .threw T.heap.size, hrun, hend, Or.inr ⟨T.heap.size, rfl, eNS, ce, locs, kx_thx hS hpx U hWs.alike f1 (fun q hq => f2 q hq (fun z hz => nomatch hz)), hce, hcv, hcl, hWs, hall, hS.2.2⟩⟩
  refine st1 _ ?_
  show Steps p.tables e below (T1.setTop { method := m, pc := pc + 3, locals := ls, stack := .ref T.heap.size :: rest, locked := none }) _
  jvm_step X₁.here [X₁.here.top, hx, d3', Value.category]
  exact X₁.ldcString hx (own := RX11) (text := text) (index := is) (a := sa is) hown' hstr'.1 hstr'.2
    (g := { method := m, pc := pc + 4, locals := ls, stack := .ref T.heap.size :: .ref T.heap.size :: rest, locked := none }) rfl d4' _ hsteps
theorem kx_throwNW {ik is ic : Nat} {text : String} (hx : p.tables.exec = Jvm.exec) (hb : c.code = cc) (hlst : l.stackTraces = false) (hown : s.vm.findClass RX11 = some m.cls) (hU : ∀ w ∈ UU, w.before args s = true) (uk : Cond.classLink RX11 ik eNS ∈ UU) (ui : Cond.initialized eNS ∈ UU) (hs : (is, text) ∈ xstrs) (hat : ∀ w ∈ xaNSf RX11 ic, w ∈ UU ∨ w ∈ xws) (hZ : xU sa A s s.heap) (hS : va_S A s.heap H locs) (hls : ls.size = c.maxLocals)
    (d0 : decode cc pc = .ok (.new ik, 3)) (d3 : decode cc (pc + 3) = .ok (.dup, 1)) (d4 : decode cc (pc + 4) = .ok (.ldc_w is, 3)) (d6 : decode cc (pc + 7) = .ok (.invokespecial ic, 3)) (d9 : decode cc (pc + 10) = .ok (.athrow, 1)) (hnt : ∀ x ∈ c.exceptionTable.toList, False) (h1 : Nat.ble 6 R.frames = true) (h2 : Nat.ble ((rest.map fun v => v.category).sum + 82) R.locals = true) (h3 : Nat.ble (cells + 1) R.cells = true) (h4 : Nat.ble (slots + 6) R.slots = true) (hlocks : meth.locks = false) (hpx : px eNS) :
    W p l e R s m args below meth c H locs cells slots (vx_MQ below (kt_Q G post A) (kx_X px A) args s R.cells R.slots A) (F0 m pc ls rest) := by
  intro T hT X
  have htr : e.platform.stackTraces = false := (show e.platform.stackTraces = l.stackTraces by rw [X.admits.platform]).trans hlst
  have Y := vx_rebase X (R' := { frames := R.frames, locals := R.locals, cells := 1, slots := 6 }) (Nat.le_refl _) (Nat.le_refl _) (Nat.le_of_ble_eq_true h3) (Nat.le_of_ble_eq_true h4)
  obtain ⟨s', hA⟩ : ∃ z, z = (T.setVm s.vm).setFrames (.invoking m args :: below) := ⟨_, rfl⟩
  rw [← hA] at Y
  have hvm : s'.vm = s.vm := by rw [hA]; rfl
  have hhp : s'.heap = H := by rw [hA]; exact hT
  have hW0 : s.WarmedH s'.vm := by rw [hvm]; exact State.WarmedH.refl s
  have hot : ∀ w, w ∈ UU ∨ w ∈ xws → w.before args s' = true := fun w h => vx_ot_at hW0 hvm.symm (h.elim (fun h => by simp [vx_ot, uu_good h]) (fun h => by simp [vx_ot, (xws_ok w h).1])) (h.elim (fun h => hU w h) (fun h => va_Nw.use (xws_ok w h).1 (hZ.2.2.2.1 w h)))
  have hU' : vx_Zq Bundle.tN "UNASSIGNED_STACK" Bundle.steD A s' s'.heap := by rw [hhp]; exact vx_Zq.moved hW0.alike (hZ.1.kept hS.2.1)
  have hN' : vx_Zq Bundle.tN "SUPPRESSED_SENTINEL" Bundle.listD A s' s'.heap := by rw [hhp]; exact vx_Zq.moved hW0.alike (hZ.2.1.kept hS.2.1)
  have h : ∀ w ∈ xaNS RX11 ic, w.before args s' = true := vx_own (fun w hw => hot w (hat w hw)) (vx_isRefq hU'.1) (vx_isRefq hN'.1) hU'.2.word hN'.2.word
  have hown' : s'.vm.findClass RX11 = some m.cls := by rw [hvm]; exact hown
  have hins : (Cond.instantiable eNS 6).before args s' = true := h _ (by simp [xaNS])
  obtain ⟨vm₁, cX, kX, hfX, hkX, -, -, X₁, st1⟩ := Y.newCold hx (own := RX11) (C := eNS) (index := ik) (n := 6) hown' (hot _ (Or.inl uk)) hins (hot _ (Or.inl ui))
    (g := F0 m pc ls rest) rfl (by rw [hb]; exact d0) (Nat.le_refl _) (Nat.le_refl _)
  generalize hT1 : (T.setVm vm₁).pushCell { cls := cX, slots := kX.instanceTypes.map defaultValue, vm := .none } = T1 at X₁ st1
  have hcat : (Value.ref T.heap.size).category = 1 := rfl
  have hcellA : T1.heap[T.heap.size]? = some (freshCell cX kX) := by rw [← hT1]; exact State.heap_pushCell_size _ _
  have d3' : decode c.code (pc + 3) = .ok (.dup, 1) := by rw [hb]; exact d3
  have d4' : decode c.code (pc + 4) = .ok (.ldc_w is, 3) := by rw [hb]; exact d4
  have hstr' : vk_R RX11 is text (sa is) s' := vk_R.warm hW0 (hZ.2.2.2.2 _ hs)
  have h2' := Nat.le_of_ble_eq_true h2
  obtain ⟨U, hsteps, hrun, hend, hW, hsame, ce, hce, hcv, hcl0⟩ := lx_ctorNS X₁ hx htr (own := RX11) (ic := ic) hown' h (fun x hx => nomatch hx) hfX hkX hcellA (by rw [hhp, hT]; exact Nat.le_refl _) (msg := .ref (sa is)) rfl
    (g := { method := m, pc := pc + 7, locals := ls, stack := .ref (sa is) :: .ref T.heap.size :: .ref T.heap.size :: rest, locked := none }) rfl hls rfl rfl (rest := rest) rfl
    (by rw [hb]; exact d6) (by rw [hb]; exact d9) (fun x h => (hnt x h).elim) (Nat.le_of_ble_eq_true h1) (by simp only [List.map_cons, List.sum_cons, hcat]; have : 2 * ({ method := m, pc := pc + 7, locals := ls, stack := .ref (sa is) :: .ref T.heap.size :: .ref T.heap.size :: rest, locked := none } : JFrame).monitorRoom = 0 := rfl; omega) hlocks
  obtain ⟨f1, f2⟩ := vx_frame hsame
  rw [hhp] at f1 f2
  have hWs : s.WarmedH U.vm := State.WarmedH.trans hW0 hW
  have hcl : s.vm.findClass eNS = some ce.cls := by rw [hvm] at hcl0; exact hcl0
  have hall : s.sameButNew ({ U with vm := s.vm } : State) locs R.cells R.slots := by
    subst hA
    obtain ⟨e1, e2⟩ := hsame
    rw [State.setFrames_setFrames] at e1
    have h2 : (T.setVm s.vm).sameButNew ({ U with vm := s.vm } : State) [] (0 + 1) (0 + 6) := ⟨e1, e2⟩
    have h3' := X.same.trans h2
    rw [List.append_nil] at h3'
    exact h3'.mono (Nat.le_of_ble_eq_true h3) (Nat.le_of_ble_eq_true h4)
  refine ⟨U, ?_, .threw T.heap.size, hrun, hend, Or.inr ⟨T.heap.size, rfl, eNS, ce, locs, kx_thx hS hpx U hWs.alike f1 (fun q hq => f2 q hq (fun z hz => nomatch hz)), hce, hcv, hcl, hWs, hall, hS.2.2⟩⟩
  refine st1 _ ?_
  show Steps p.tables e below (T1.setTop { method := m, pc := pc + 3, locals := ls, stack := .ref T.heap.size :: rest, locked := none }) _
  jvm_step X₁.here [X₁.here.top, hx, d3', Value.category]
  exact X₁.ldcStringW hx (own := RX11) (text := text) (index := is) (a := sa is) hown' hstr'.1 hstr'.2
    (g := { method := m, pc := pc + 4, locals := ls, stack := .ref T.heap.size :: .ref T.heap.size :: rest, locked := none }) rfl d4' _ hsteps
end NSW
