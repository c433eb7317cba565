/-! Own rows for methods that may throw -/
def xstrs : List (Nat × String) := [(325, "no such line"), (143, "another what"), (154, "no such variable"), (329, "no sets, or one in common"), (331, "no width"), (269, "another what, or no node"), (274, "no number of pebbles"), (311, "no such axiom")]
abbrev eIO : String := "java/lang/IndexOutOfBoundsException"
abbrev eIA : String := "java/lang/IllegalArgumentException"
abbrev eNS : String := "java/util/NoSuchElementException"
abbrev eNames : List String := ["java/lang/RuntimeException", "java/lang/Exception"]
abbrev eRT : String := "java/lang/RuntimeException"
abbrev eEX : String := "java/lang/Exception"
def xws : List Cond := [.declares (Bundle.initS eRT), .declares (Bundle.initS eEX), .declares (Bundle.initS Bundle.tN), .castable eIO eIO, .castable eIA eIA, .castable eNS eNS]
theorem xws_ok : ∀ w ∈ xws, w.onTables = true ∧ w.faceAtom = true := by decide +kernel
theorem lx_nw {w : Cond} (h : w ∈ xws) {s U : State} (hW : s.WarmedH U.vm) (hZ : va_Nw w s) : va_Nw w U := va_tabs (xws_ok w h).1 (rfl : (s.setVm U.vm).vm = U.vm) (Cond.faceAtom_setVm (args := #[]) hW.alike w (xws_ok w h).2 hZ)
def xU (sa : Nat → Nat) (A : Nat → Prop) (U : State) (H : Heap) : Prop := vx_Zq Bundle.tN "UNASSIGNED_STACK" Bundle.steD A U H ∧ vx_Zq Bundle.tN "SUPPRESSED_SENTINEL" Bundle.listD A U H ∧ va_Nc eNS eIA U ∧ (∀ w ∈ xws, va_Nw w U) ∧ ∀ q ∈ xstrs, vk_R RX11 q.1 q.2 (sa q.1) U
theorem xU.same {sa : Nat → Nat} {A : Nat → Prop} {u U : State} {H : Heap} (hv : U.vm = u.vm) (h : xU sa A u H) : xU sa A U H := by
  have hA : u.vm.Alike U.vm := by rw [hv]; exact Vm.Alike.refl _
  exact ⟨h.1.moved hA, h.2.1.moved hA, h.2.2.1.moved hA, fun w hw => va_Nw.same (xws_ok w hw).1 hv.symm (h.2.2.2.1 w hw), fun q hq => vk_R.same hv (h.2.2.2.2 q hq)⟩
theorem xU.to {sa : Nat → Nat} {A A1 : Nat → Prop} {s U : State} {H : Heap} {locs : List Loc} (hW : s.WarmedH U.vm) (hS : va_S A s.heap H locs) (hA : ∀ q, A1 q → A q) (h : xU sa A s s.heap) : xU sa A1 U H :=
  ⟨((h.1.kept hS.2.1).narrow hA).moved hW.alike, ((h.2.1.kept hS.2.1).narrow hA).moved hW.alike, h.2.2.1.moved hW.alike, fun w hw => lx_nw hw hW (h.2.2.2.1 w hw), fun q hq => vk_R.warm hW (h.2.2.2.2 q hq)⟩
def kx_Pc (G : va_G) (cy : Nat → ClassId) (sa : Nat → Nat) (av : List Value) (wc : va_W) (sz : Nat) : Array Value → State → Prop := va_Pc av (fun U => U.heap.size = sz ∧ va_P G vwCl wc U.heap ∧ kK G cy U ∧ va_D (fun _ => True) wc ∧ xU sa (va_A wc sz) U U.heap)
def kx_X (px : String → Prop) (A : Nat → Prop) : String → State → State → Prop := fun E st t => px E ∧ va_F A st t
/-- a contract of a method that may throw -/
def Kx (l : Launch) (G : va_G) (cy : Nat → ClassId) (sa : Nat → Nat) (y : MethodName) (cc : ByteArray) (maxL : Nat) (ret : Option FieldType) (rm : Room) (av : List Value) (wc : va_W) (post : Option Value → va_W → Prop) (px : String → Prop) : Prop :=
  ∀ sz : Nat, vx_Met l y (Cond.code y cc maxL ret :: UU) rm (kx_Pc G cy sa av wc sz) (kt_Q G post (va_A wc sz)) (kx_X px (va_A wc sz)) rm.cells rm.slots (va_A wc sz)
theorem kx_ofW {l : Launch} {G : va_G} {cy : Nat → ClassId} {sa : Nat → Nat} {y : MethodName} {cc : ByteArray} {maxL : Nat} {ret : Option FieldType} {rm : Room} {av : List Value} {wc : va_W} {post : Option Value → va_W → Prop} {px : String → Prop} (hy : plainName y.cls = true) (hlen : (lg_sl av).length ≤ maxL)
    (body : ∀ (p : Program) (e : Env) (s : State) (m : MethodId) (below : List Frame) (meth : Method) (c : Code) (A : Nat → Prop) (ls : Array Slot), p.tables.exec = Jvm.exec → c.code = cc → meth.sig.returnType = ret → (∀ w ∈ UU, w.before av.toArray s = true) → s.vm.findClass y.cls = some m.cls → meth.locks = false → c.maxLocals = maxL → meth.name = y.name → va_P G vwCl wc s.heap → kK G cy s → va_D A wc → (∀ q, s.heap.size ≤ q → A q) → va_S A s.heap s.heap [] → lv_has ls maxL (lv_args 0 av) → xU sa A s s.heap → (∀ x ∈ c.exceptionTable.toList, False) →
      W p l e rm s m av.toArray below meth c s.heap [] 0 0 (vx_MQ below (kt_Q G post A) (kx_X px A) av.toArray s rm.cells rm.slots A) (F0 m 0 ls [])) : Kx l G cy sa y cc maxL ret rm av wc post px := by
  intro sz
  refine vx_ofW (cc := cc) (maxL := maxL) (ret := ret) hy rfl ?_
  intro p e s m args below meth c s₁ B hml hnt hv
  obtain ⟨rfl, hsz, hP, hK, hD0, hZ⟩ := hv
  subst hsz
  have hts := atoms_spec (ws := Cond.code y cc maxL ret :: UU) B.pre
  rw [lg_entry_eq]
  exact body p e s m below meth c (va_A wc s.heap.size) _ B.exec B.bytes B.returns (fun w h => hts w (List.mem_cons_of_mem _ h)) (findClass_of_methodNamed B.named) B.notSynchronized hml (name_of_methodNamed B.named B.method).1 hP hK hD0.self (fun q h => Or.inr h) va_S.rf (lv_entry av hlen) hZ hnt
/-- a contract of a method with a table of its own that lets nothing out -/
def Kw (l : Launch) (G : va_G) (cy : Nat → ClassId) (sa : Nat → Nat) (y : MethodName) (cc : ByteArray) (maxL : Nat) (ret : Option FieldType) (hh : List (Nat × Nat × Nat × Nat)) (rm : Room) (av : List Value) (wc : va_W) (post : Option Value → va_W → Prop) : Prop :=
  ∀ sz : Nat, vx_Met l y (Cond.codeWith y cc maxL ret hh :: UU) rm (kx_Pc G cy sa av wc sz) (kt_Q G post (va_A wc sz)) (fun _ _ _ => False) rm.cells rm.slots (va_A wc sz)
theorem kw_ofW {l : Launch} {G : va_G} {cy : Nat → ClassId} {sa : Nat → Nat} {y : MethodName} {cc : ByteArray} {maxL : Nat} {ret : Option FieldType} {hh : List (Nat × Nat × Nat × Nat)} {rm : Room} {av : List Value} {wc : va_W} {post : Option Value → va_W → Prop} (hy : plainName y.cls = true) (hlen : (lg_sl av).length ≤ maxL)
    (body : ∀ (p : Program) (e : Env) (s : State) (m : MethodId) (below : List Frame) (meth : Method) (c : Code) (A : Nat → Prop) (ls : Array Slot), p.tables.exec = Jvm.exec → c.code = cc → meth.sig.returnType = ret → (∀ w ∈ UU, w.before av.toArray s = true) → s.vm.findClass y.cls = some m.cls → meth.locks = false → c.maxLocals = maxL → meth.name = y.name → va_P G vwCl wc s.heap → kK G cy s → va_D A wc → (∀ q, s.heap.size ≤ q → A q) → va_S A s.heap s.heap [] → lv_has ls maxL (lv_args 0 av) → xU sa A s s.heap → c.exceptionTable.toList = tableOf hh →
      W p l e rm s m av.toArray below meth c s.heap [] 0 0 (vx_MQ below (kt_Q G post A) (fun _ _ _ => False) av.toArray s rm.cells rm.slots A) (F0 m 0 ls [])) : Kw l G cy sa y cc maxL ret hh rm av wc post := by
  intro sz
  refine vx_ofWH (cc := cc) (maxL := maxL) (ret := ret) (hh := hh) hy rfl ?_
  intro p e s m args below meth c s₁ B hml hv
  obtain ⟨rfl, hsz, hP, hK, hD0, hZ⟩ := hv
  subst hsz
  have hts := atoms_spec (ws := Cond.codeWith y cc maxL ret hh :: UU) B.pre
  have htab := vx_table (x := y) B (hts _ List.mem_cons_self)
  rw [lg_entry_eq]
  exact body p e s m below meth c (va_A wc s.heap.size) _ B.exec B.bytes B.returns (fun w h => hts w (List.mem_cons_of_mem _ h)) (findClass_of_methodNamed B.named) B.notSynchronized hml (name_of_methodNamed B.named B.method).1 hP hK hD0.self (fun q h => Or.inr h) va_S.rf (lv_entry av hlen) hZ htab
def mW (y : MethodName) (bytes : ByteArray) (maxL : Nat) (ret : Option FieldType) (hh : List (Nat × Nat × Nat × Nat)) (n : Nat) : Prop := Cond.codeWith y bytes maxL ret hh ∈ UU ∧ Cond.static y ∈ UU ∧ Cond.initialized y.cls ∈ UU ∧ mD y n
section KX
variable {p : Program} {l : Launch} {e : Env} {R : Room} {s : State} {m : MethodId} {args : Array Value} {below : List Frame} {meth : Method} {c : Code} {H H0 : Heap} {locs : List Loc} {cells slots : Nat} {Q : State → Prop} {A : Nat → Prop} {G : va_G} {cy : Nat → ClassId} {sa : Nat → Nat} {cc : ByteArray} {pc : Nat} {ls : Array Slot} {st0 rest : List Value} {w wc wr : va_W} {post postc : Option Value → va_W → Prop} {px pxc : String → Prop}
theorem kx_go {mc ms : Nat} {a : Array Value} {XC : String → State → State → Prop} (hXC : ∀ E st t, XC E st t → px E ∧ va_F (va_A wc H.size) st t) (hrun : vx_Run p l e R s m args below meth c H locs cells slots mc ms (F0 m pc ls st0) rest (kt_Q G post (va_A wc H.size) a) XC (va_A wc H.size)) (hP : va_P G vwCl w H) (hD : va_D A w) (hS : va_S A H0 H locs) (hA : ∀ q, H0.size ≤ q → A q) (isC isR : List Nat) (hC : isC.map (fun i => w[i]?) = wc.map some) (hR : isR.map (fun i => w[i]?) = wr.map some) (hok : lx_ok isC isR = true)
    (kx : ∀ (E : String) (ce : Cell) (q9 : Addr) (H1 : Heap) (locs1 : List Loc), px E → va_P G vwCl wr H1 → va_D A wr → va_S A H0 H1 locs1 → H1[q9]? = some ce → ce.vm = .none → s.vm.findClass E = some ce.cls → vx_W p l e R s m args below meth c H1 locs1 (cells + mc) (slots + ms) Q (F0 m pc ls rest) q9)
    (kk : ∀ (v : Option Value) (w1 : va_W) (H1 : Heap) (locs1 : List Loc), post v w1 → va_P G vwCl (wr ++ w1) H1 → va_D A (wr ++ w1) → va_S A H0 H1 locs1 → W p l e R s m args below meth c H1 locs1 (cells + mc) (slots + ms) Q (F0 m (pc + 3) ls (v.toList ++ rest))) : W p l e R s m args below meth c H locs cells slots Q (F0 m pc ls st0) := by
  intro T hT X
  have hF := va_free (wc := wc) hD hS hA isC hC
  rcases hrun T hT X with ⟨v, st₀, t, T', L, h0, X', hL, e1, e2, ⟨⟨v', w1, hv, hp, hP1, hD1⟩, hz, hk⟩, st⟩ | ⟨q, st₀, t, T', L, E, ce, h0, X', hL, e1, e2, hxc, hce, hcv, hcl, st⟩
  · cases hv
    rw [h0] at hz hk
    rw [← e1] at hP1 hz hk
    obtain ⟨hP2, hD2⟩ := va_join (wr := wr) (w1 := w1) hP hD isC isR hC hR (lx_okr hok) (lx_okd hok) hk hF hP1 hD1
    obtain ⟨t2, a1, b1⟩ := kk v w1 T'.heap (locs ++ L) hp hP2 hD2
      ⟨Nat.le_trans hS.1 hz, fun q h1 h2 => by rw [hk q (Nat.lt_of_lt_of_le h1 hS.1) (fun z => h2 (hF q z))]; exact hS.2.1 q h1 h2, fun q hq => by
        rcases List.mem_append.mp hq with h | h
        · exact hS.2.2 q h
        · exact hF _ (hL q h)⟩ T' rfl X'
    exact ⟨t2, st t2 a1, b1⟩
  · obtain ⟨hp, hz, hk⟩ := hXC E st₀ t hxc
    rw [h0] at hz hk
    rw [← e1] at hz hk
    obtain ⟨hP2, hD2⟩ := va_join (wr := wr) (w1 := []) hP hD isC isR hC hR (lx_okr hok) (lx_okd hok) hk hF (fun k q h => by simp at h) ⟨fun i j p q h => by simp at h, fun k q h => by simp at h⟩
    rw [List.append_nil] at hP2 hD2
    obtain ⟨t2, a1, b1⟩ := kx E ce q T'.heap (locs ++ L) hp hP2 hD2
      ⟨Nat.le_trans hS.1 hz, fun q h1 h2 => by rw [hk q (Nat.lt_of_lt_of_le h1 hS.1) (fun z => h2 (hF q z))]; exact hS.2.1 q h1 h2, fun q hq => by
        rcases List.mem_append.mp hq with h | h
        · exact hS.2.2 q h
        · exact hF _ (hL q h)⟩ (by rw [e1]; exact hce) hcv hcl T' rfl X'
    exact ⟨t2, st.trans a1, b1⟩
theorem kx_pre {av : List Value} (hK : kK G cy s) (hP : va_P G vwCl w H) (hD : va_D A w) (hS : va_S A s.heap H locs) (hA : ∀ q, s.heap.size ≤ q → A q) (hZ : xU sa A s s.heap) (isC : List Nat) (hC : isC.map (fun i => w[i]?) = wc.map some) (hn : va_nd isC = true) : PreS s H (kx_Pc G cy sa av wc H.size) av :=
  ⟨fun a U g mk q => by obtain ⟨q0, q1, qP, qK, qD, qZ⟩ := q; exact ⟨q0, q1, qP, kK.moved (u := U) (U := U.calling g mk a) (Vm.Alike.refl U.vm) qK, qD, xU.same (u := U) (U := U.calling g mk a) rfl qZ⟩,
   fun U hU hW => ⟨rfl, by rw [hU], by rw [hU]; exact hP.sub isC (lx_fm hC), kK.moved hW.alike hK, (hD.sub isC hn hC).weaken (fun _ _ _ _ => trivial), by rw [hU]; exact hZ.to hW hS (va_free (wc := wc) hD hS hA isC hC)⟩⟩
/-- a call, the throw left to the caller's row -/
theorem kx_callVH {own : String} {y : MethodName} {bytes : ByteArray} {maxL nL n index : Nat} {ret : Option FieldType} {rm : Room} {As : List Value} {b : Nat} (hM : Kx l G cy sa y bytes maxL ret rm (.ref b :: As) wc post px) (hm : mV y bytes maxL ret n) (hl : Cond.methodLink own index y ∈ UU)
    (hx : p.tables.exec = Jvm.exec) (hb : c.code = cc) (hml : c.maxLocals = nL) (hown : s.vm.findClass own = some m.cls) (hU : ∀ w ∈ UU, w.before args s = true) (hls : ls.size = nL) (hK : kK G cy s) (hP : va_P G vwCl w H) (hD : va_D A w) (hS : va_S A s.heap H locs) (hA : ∀ q, s.heap.size ≤ q → A q)
    (hdg : decode cc pc = .ok (.invokevirtual index, 3)) (isC isR : List Nat) (hC : isC.map (fun i => w[i]?) = wc.map some) (hR : isR.map (fun i => w[i]?) = wr.map some) (hok : lx_ok isC isR = true) (hroom : lx_room rm R maxL cells slots = true)
    (hn : As.length = n) (hst : st0 = As.reverse ++ .ref b :: rest) (hrest : (rest.map fun v => v.category).sum ≤ 8)
    {ci : Nat} {q : vw_C} {fs : List Value} (hcl : vwCl[ci]? = some q) (hq0 : wc[0]? = some (b, .inr (ci, fs))) (hqC : q.1 = y.cls) (hZ : xU sa A s s.heap)
    (kx : ∀ (E : String) (ce : Cell) (q9 : Addr) (H1 : Heap) (locs1 : List Loc), px E → va_P G vwCl wr H1 → va_D A wr → va_S A s.heap H1 locs1 → H1[q9]? = some ce → ce.vm = .none → s.vm.findClass E = some ce.cls → vx_W p l e R s m args below meth c H1 locs1 (cells + rm.cells) (slots + rm.slots) Q (F0 m pc ls rest) q9)
    (kk : ∀ (v : Option Value) (w1 : va_W) (H1 : Heap) (locs1 : List Loc), post v w1 → va_P G vwCl (wr ++ w1) H1 → va_D A (wr ++ w1) → va_S A s.heap H1 locs1 → W p l e R s m args below meth c H1 locs1 (cells + rm.cells) (slots + rm.slots) Q (F0 m (pc + 3) ls (v.toList ++ rest))) : W p l e R s m args below meth c H locs cells slots Q (F0 m pc ls st0) := by
  obtain ⟨u0, u2, u3, u4, hd⟩ := hm
  have hpre := kx_pre (av := .ref b :: As) (wc := wc) hK hP hD hS hA hZ isC hC (lx_okc hok)
  have hrec : ∃ cell : Cell, H[b]? = some cell ∧ cell.vm.isStatics = false ∧ s.vm.findClass y.cls = some cell.cls := by
    rw [← hqC]; exact va_recv hK.1 (hP.sub isC (lx_fm hC)) hcl hq0
  exact kx_go (fun _ _ _ h => h) (vx_runV (C := y.cls) (As := As) (rest := rest) ⟨hx, hb, hml, hown, hU⟩ (hM H.size) ⟨callB_of n hU (uu_gi u0) rfl rfl rfl (hU _ u4) (hU _ hl) hd (lx_rooma hroom), hU _ u2, hU _ u3⟩ ⟨hpre.1, hrec, hpre.2⟩ rfl hn hls hst (lv_room hrest) hdg (lx_roomb hroom)) hP hD hS hA isC isR hC hR hok kx kk
theorem kx_callSH {own : String} {y : MethodName} {bytes : ByteArray} {maxL nL n index : Nat} {ret : Option FieldType} {rm : Room} {As : List Value} (hM : Kx l G cy sa y bytes maxL ret rm As wc post px) (hm : mS y bytes maxL ret n) (hl : Cond.methodLink own index y ∈ UU)
    (hx : p.tables.exec = Jvm.exec) (hb : c.code = cc) (hml : c.maxLocals = nL) (hown : s.vm.findClass own = some m.cls) (hU : ∀ w ∈ UU, w.before args s = true) (hls : ls.size = nL) (hK : kK G cy s) (hP : va_P G vwCl w H) (hD : va_D A w) (hS : va_S A s.heap H locs) (hA : ∀ q, s.heap.size ≤ q → A q)
    (hdg : decode cc pc = .ok (.invokestatic index, 3)) (isC isR : List Nat) (hC : isC.map (fun i => w[i]?) = wc.map some) (hR : isR.map (fun i => w[i]?) = wr.map some) (hok : lx_ok isC isR = true) (hroom : lx_room rm R maxL cells slots = true)
    (hn : As.length = n) (hst : st0 = As.reverse ++ rest) (hrest : (rest.map fun v => v.category).sum ≤ 8) (hZ : xU sa A s s.heap)
    (kx : ∀ (E : String) (ce : Cell) (q9 : Addr) (H1 : Heap) (locs1 : List Loc), px E → va_P G vwCl wr H1 → va_D A wr → va_S A s.heap H1 locs1 → H1[q9]? = some ce → ce.vm = .none → s.vm.findClass E = some ce.cls → vx_W p l e R s m args below meth c H1 locs1 (cells + rm.cells) (slots + rm.slots) Q (F0 m pc ls rest) q9)
    (kk : ∀ (v : Option Value) (w1 : va_W) (H1 : Heap) (locs1 : List Loc), post v w1 → va_P G vwCl (wr ++ w1) H1 → va_D A (wr ++ w1) → va_S A s.heap H1 locs1 → W p l e R s m args below meth c H1 locs1 (cells + rm.cells) (slots + rm.slots) Q (F0 m (pc + 3) ls (v.toList ++ rest))) : W p l e R s m args below meth c H locs cells slots Q (F0 m pc ls st0) := by
  obtain ⟨u0, u2, u4, hd⟩ := hm
  have hpre := kx_pre (av := As) (wc := wc) hK hP hD hS hA hZ isC hC (lx_okc hok)
  exact kx_go (fun _ _ _ h => h) (vx_runS (As := As) (rest := rest) ⟨hx, hb, hml, hown, hU⟩ (hM H.size) ⟨callB_of n hU (uu_gi u0) rfl rfl rfl (hU _ u4) (hU _ hl) hd (lx_rooma hroom), hU _ u2⟩ hpre rfl hn hls hst (lv_room hrest) hdg (lx_roomb hroom)) hP hD hS hA isC isR hC hR hok kx kk
/-- .. the throw goes on to the caller's caller -/
theorem kx_callV {own : String} {y : MethodName} {bytes : ByteArray} {maxL nL n index : Nat} {ret : Option FieldType} {rm : Room} {As : List Value} {b : Nat} (hM : Kx l G cy sa y bytes maxL ret rm (.ref b :: As) wc post px) (hm : mV y bytes maxL ret n) (hl : Cond.methodLink own index y ∈ UU)
    (hx : p.tables.exec = Jvm.exec) (hb : c.code = cc) (hml : c.maxLocals = nL) (hown : s.vm.findClass own = some m.cls) (hU : ∀ w ∈ UU, w.before args s = true) (hls : ls.size = nL) (hK : kK G cy s) (hP : va_P G vwCl w H) (hD : va_D A w) (hS : va_S A s.heap H locs) (hA : ∀ q, s.heap.size ≤ q → A q)
    (hdg : decode cc pc = .ok (.invokevirtual index, 3)) (isC isR : List Nat) (hC : isC.map (fun i => w[i]?) = wc.map some) (hR : isR.map (fun i => w[i]?) = wr.map some) (hok : lx_ok isC isR = true) (hroom : lx_room rm R maxL cells slots = true)
    (hn : As.length = n) (hst : st0 = As.reverse ++ .ref b :: rest) (hrest : (rest.map fun v => v.category).sum ≤ 8)
    {ci : Nat} {q : vw_C} {fs : List Value} (hcl : vwCl[ci]? = some q) (hq0 : wc[0]? = some (b, .inr (ci, fs))) (hqC : q.1 = y.cls) (hZ : xU sa A s s.heap) (hnt : ∀ x ∈ c.exceptionTable.toList, False) (hlocks : meth.locks = false) (hpx : ∀ E, px E → pxc E)
    (kk : ∀ (v : Option Value) (w1 : va_W) (H1 : Heap) (locs1 : List Loc), post v w1 → va_P G vwCl (wr ++ w1) H1 → va_D A (wr ++ w1) → va_S A s.heap H1 locs1 → W p l e R s m args below meth c H1 locs1 (cells + rm.cells) (slots + rm.slots) (vx_MQ below (kt_Q G postc A) (kx_X pxc A) args s R.cells R.slots A) (F0 m (pc + 3) ls (v.toList ++ rest))) : W p l e R s m args below meth c H locs cells slots (vx_MQ below (kt_Q G postc A) (kx_X pxc A) args s R.cells R.slots A) (F0 m pc ls st0) :=
  kx_callVH hM hm hl hx hb hml hown hU hls hK hP hD hS hA hdg isC isR hC hR hok hroom hn hst hrest hcl hq0 hqC hZ (fun E ce q9 H1 locs1 hE _ _ hS1 hce hcv hcl => vx_out (fun x h => (hnt x h).elim) hlocks hce hcv hcl (fun t ht _ => ⟨hpx E hE, hS1.F ht⟩) hS1.2.2 (lx_roomb hroom).1 (lx_roomb hroom).2) kk
theorem kx_callS {own : String} {y : MethodName} {bytes : ByteArray} {maxL nL n index : Nat} {ret : Option FieldType} {rm : Room} {As : List Value} (hM : Kx l G cy sa y bytes maxL ret rm As wc post px) (hm : mS y bytes maxL ret n) (hl : Cond.methodLink own index y ∈ UU)
    (hx : p.tables.exec = Jvm.exec) (hb : c.code = cc) (hml : c.maxLocals = nL) (hown : s.vm.findClass own = some m.cls) (hU : ∀ w ∈ UU, w.before args s = true) (hls : ls.size = nL) (hK : kK G cy s) (hP : va_P G vwCl w H) (hD : va_D A w) (hS : va_S A s.heap H locs) (hA : ∀ q, s.heap.size ≤ q → A q)
    (hdg : decode cc pc = .ok (.invokestatic index, 3)) (isC isR : List Nat) (hC : isC.map (fun i => w[i]?) = wc.map some) (hR : isR.map (fun i => w[i]?) = wr.map some) (hok : lx_ok isC isR = true) (hroom : lx_room rm R maxL cells slots = true)
    (hn : As.length = n) (hst : st0 = As.reverse ++ rest) (hrest : (rest.map fun v => v.category).sum ≤ 8) (hZ : xU sa A s s.heap) (hnt : ∀ x ∈ c.exceptionTable.toList, False) (hlocks : meth.locks = false) (hpx : ∀ E, px E → pxc E)
    (kk : ∀ (v : Option Value) (w1 : va_W) (H1 : Heap) (locs1 : List Loc), post v w1 → va_P G vwCl (wr ++ w1) H1 → va_D A (wr ++ w1) → va_S A s.heap H1 locs1 → W p l e R s m args below meth c H1 locs1 (cells + rm.cells) (slots + rm.slots) (vx_MQ below (kt_Q G postc A) (kx_X pxc A) args s R.cells R.slots A) (F0 m (pc + 3) ls (v.toList ++ rest))) : W p l e R s m args below meth c H locs cells slots (vx_MQ below (kt_Q G postc A) (kx_X pxc A) args s R.cells R.slots A) (F0 m pc ls st0) :=
  kx_callSH hM hm hl hx hb hml hown hU hls hK hP hD hS hA hdg isC isR hC hR hok hroom hn hst hrest hZ (fun E ce q9 H1 locs1 hE _ _ hS1 hce hcv hcl => vx_out (fun x h => (hnt x h).elim) hlocks hce hcv hcl (fun t ht _ => ⟨hpx E hE, hS1.F ht⟩) hS1.2.2 (lx_roomb hroom).1 (lx_roomb hroom).2) kk
/-- a call of a method with a table of its own -/
theorem kw_callS {own : String} {y : MethodName} {bytes : ByteArray} {maxL nL n index : Nat} {ret : Option FieldType} {hh : List (Nat × Nat × Nat × Nat)} {rm : Room} {As : List Value} (hM : Kw l G cy sa y bytes maxL ret hh rm As wc post) (hm : mW y bytes maxL ret hh n) (hl : Cond.methodLink own index y ∈ UU)
    (hx : p.tables.exec = Jvm.exec) (hb : c.code = cc) (hml : c.maxLocals = nL) (hown : s.vm.findClass own = some m.cls) (hU : ∀ w ∈ UU, w.before args s = true) (hls : ls.size = nL) (hK : kK G cy s) (hP : va_P G vwCl w H) (hD : va_D A w) (hS : va_S A s.heap H locs) (hA : ∀ q, s.heap.size ≤ q → A q)
    (hdg : decode cc pc = .ok (.invokestatic index, 3)) (isC isR : List Nat) (hC : isC.map (fun i => w[i]?) = wc.map some) (hR : isR.map (fun i => w[i]?) = wr.map some) (hok : lx_ok isC isR = true) (hroom : lx_room rm R maxL cells slots = true)
    (hn : As.length = n) (hst : st0 = As.reverse ++ rest) (hrest : (rest.map fun v => v.category).sum ≤ 8) (hZ : xU sa A s s.heap)
    (kk : ∀ (v : Option Value) (w1 : va_W) (H1 : Heap) (locs1 : List Loc), post v w1 → va_P G vwCl (wr ++ w1) H1 → va_D A (wr ++ w1) → va_S A s.heap H1 locs1 → W p l e R s m args below meth c H1 locs1 (cells + rm.cells) (slots + rm.slots) Q (F0 m (pc + 3) ls (v.toList ++ rest))) : W p l e R s m args below meth c H locs cells slots Q (F0 m pc ls st0) := by
  obtain ⟨u0, u2, u4, hd⟩ := hm
  have hpre := kx_pre (av := As) (wc := wc) hK hP hD hS hA hZ isC hC (lx_okc hok)
  have hG : GoodIn UU (va_wsS own index y (Cond.codeWith y bytes maxL ret hh :: UU)) := by
    intro v hv
    rcases List.mem_append.mp hv with h | h
    · have h2 : v ∈ UU := by
        rcases List.mem_cons.mp h with h | h
        · rw [h]; exact hl
        rcases List.mem_cons.mp h with h | h
        · rw [h]; exact u2
        rcases List.mem_cons.mp h with h | h
        · rw [h]; exact u4
        · cases h
      exact ⟨h2, good_of_word (uu_good h2)⟩
    · exact uu_gi u0 v h
  exact kx_go (px := fun _ => False) (fun _ _ _ h => h.elim) (vx_runSX (As := As) (rest := rest) ⟨hx, hb, hml, hown, hU⟩ (hM H.size) (vx_cwSW n hU hG rfl rfl rfl hd (lx_rooma hroom)) hpre rfl hn hls hst (lv_room hrest) hdg (lx_roomb hroom)) hP hD hS hA isC isR hC hR hok (fun _ _ _ _ _ h => h.elim) kk
theorem kx_thx {cls : String} (hS : va_S A s.heap H locs) (hpx : px cls) : ∀ t : State, s.vm.Alike t.vm → H.size ≤ t.heap.size → (∀ q : Nat, q < H.size → t.heap[q]? = H[q]?) → kx_X px A cls s t := fun t _ hz hk => ⟨hpx, Nat.le_trans hS.1 hz, fun q h1 h2 => by rw [hk q (Nat.lt_of_lt_of_le h1 hS.1)]; exact hS.2.1 q h1 h2⟩
theorem kx_throw {cls text : String} {ik is ic : Nat} (hx : p.tables.exec = Jvm.exec) (hb : c.code = cc) (hlst : l.stackTraces = false) (hown : s.vm.findClass RX11 = some m.cls) (hcls : Bundle.fit cls = true) (hU : ∀ w ∈ UU, w.before args s = true) (uk : Cond.classLink RX11 ik cls ∈ UU) (ui : Cond.initialized cls ∈ UU) (hs : (is, text) ∈ xstrs) (hat : ∀ w ∈ vx_atS RX11 ic cls eNames, w ∈ UU ∨ w ∈ xws) (hZ : xU sa A s s.heap) (hS : va_S A s.heap H locs) (hls : ls.size = c.maxLocals)
    (d0 : decode cc pc = .ok (.new ik, 3)) (d3 : decode cc (pc + 3) = .ok (.dup, 1)) (d4 : decode cc (pc + 4) = .ok (.ldc is, 2)) (d6 : decode cc (pc + 6) = .ok (.invokespecial ic, 3)) (d9 : decode cc (pc + 9) = .ok (.athrow, 1)) (hnt : ∀ x ∈ c.exceptionTable.toList, False) (h1 : Nat.ble 6 R.frames = true) (h2 : Nat.ble ((rest.map fun v => v.category).sum + 82) R.locals = true) (h3 : Nat.ble (cells + 1) R.cells = true) (h4 : Nat.ble (slots + 6) R.slots = true) (hlocks : meth.locks = false) (hpx : px cls) :
    W p l e R s m args below meth c H locs cells slots (vx_MQ below (kt_Q G post A) (kx_X px A) args s R.cells R.slots A) (F0 m pc ls rest) :=
  vx_throwS (names := eNames) hx hb hlst hown hcls (by decide) (hU _ uk) (hU _ ui) (hZ.2.2.2.2 _ hs) (fun w h => (hat w h).elim (fun h => hU w h) (fun h => va_Nw.use (xws_ok w h).1 (hZ.2.2.2.1 w h))) (fun w h => by
      have h2 : w ∈ UU ∨ w ∈ xws := (List.mem_cons.mp h).elim (fun h => by rw [h]; exact Or.inl uk) (fun h => (List.mem_cons.mp h).elim (fun h => by rw [h]; exact Or.inl ui) (fun h => hat w h))
      rcases h2 with h2 | h2
      · simp [vx_ot, uu_good h2]
      · simp [vx_ot, (xws_ok w h2).1]) hZ.1 hZ.2.1 hS hls d0 d3 d4 d6 d9 (fun x h => (hnt x h).elim) (Nat.le_of_ble_eq_true h1) (Nat.le_of_ble_eq_true h2) (Nat.le_of_ble_eq_true h3) (Nat.le_of_ble_eq_true h4) hlocks (kx_thx hS hpx) hS.2.2 (Nat.le_of_ble_eq_true h3) (Nat.le_of_ble_eq_true h4)
theorem kx_throwW {cls text : String} {ik is ic : Nat} (hx : p.tables.exec = Jvm.exec) (hb : c.code = cc) (hlst : l.stackTraces = false) (hown : s.vm.findClass RX11 = some m.cls) (hcls : Bundle.fit cls = true) (hU : ∀ w ∈ UU, w.before args s = true) (uk : Cond.classLink RX11 ik cls ∈ UU) (ui : Cond.initialized cls ∈ UU) (hs : (is, text) ∈ xstrs) (hat : ∀ w ∈ vx_atS RX11 ic cls eNames, w ∈ UU ∨ w ∈ xws) (hZ : xU sa A s s.heap) (hS : va_S A s.heap H locs) (hls : ls.size = c.maxLocals)
    (d0 : decode cc pc = .ok (.new ik, 3)) (d3 : decode cc (pc + 3) = .ok (.dup, 1)) (d4 : decode cc (pc + 4) = .ok (.ldc_w is, 3)) (d7 : decode cc (pc + 7) = .ok (.invokespecial ic, 3)) (d10 : decode cc (pc + 10) = .ok (.athrow, 1)) (hnt : ∀ x ∈ c.exceptionTable.toList, False) (h1 : Nat.ble 6 R.frames = true) (h2 : Nat.ble ((rest.map fun v => v.category).sum + 82) R.locals = true) (h3 : Nat.ble (cells + 1) R.cells = true) (h4 : Nat.ble (slots + 6) R.slots = true) (hlocks : meth.locks = false) (hpx : px cls) :
    W p l e R s m args below meth c H locs cells slots (vx_MQ below (kt_Q G post A) (kx_X px A) args s R.cells R.slots A) (F0 m pc ls rest) :=
  vx_throwSW (names := eNames) hx hb hlst hown hcls (by decide) (hU _ uk) (hU _ ui) (hZ.2.2.2.2 _ hs) (fun w h => (hat w h).elim (fun h => hU w h) (fun h => va_Nw.use (xws_ok w h).1 (hZ.2.2.2.1 w h))) (fun w h => by
      have h2 : w ∈ UU ∨ w ∈ xws := (List.mem_cons.mp h).elim (fun h => by rw [h]; exact Or.inl uk) (fun h => (List.mem_cons.mp h).elim (fun h => by rw [h]; exact Or.inl ui) (fun h => hat w h))
      rcases h2 with h2 | h2
      · simp [vx_ot, uu_good h2]
      · simp [vx_ot, (xws_ok w h2).1]) hZ.1 hZ.2.1 hS hls d0 d3 d4 d7 d10 (fun x h => (hnt x h).elim) (Nat.le_of_ble_eq_true h1) (Nat.le_of_ble_eq_true h2) (Nat.le_of_ble_eq_true h3) (Nat.le_of_ble_eq_true h4) hlocks (kx_thx hS hpx) hS.2.2 (Nat.le_of_ble_eq_true h3) (Nat.le_of_ble_eq_true h4)
end KX
theorem uu_or {ws : List Cond} (h1 : ∀ w ∈ ws, w ∈ lw_tbl) (h2 : ∀ w ∈ ws, goodWord w = true ∨ w ∈ xws) : ∀ w ∈ ws, w ∈ UU ∨ w ∈ xws := fun w h => (h2 w h).elim (fun g => Or.inl (List.mem_filter.mpr ⟨h1 w h, g⟩)) Or.inr
theorem at_156 : ∀ w ∈ vx_atS RX11 156 eIO eNames, w ∈ UU ∨ w ∈ xws := uu_or (by decide +kernel) (by decide +kernel)
theorem at_88 : ∀ w ∈ vx_atS RX11 88 eIA eNames, w ∈ UU ∨ w ∈ xws := uu_or (by decide +kernel) (by decide +kernel)
/-! NoSuchElementException: its constructor's link stands at another place (13) than the kit's row for a throw wants (7): the same chain, its first link by its own place. Follows the library's Stand.ctorThrowS (BundleOwnThrow), and the kit's vx_throwS. -/
abbrev bNS : ByteArray := prog_33_method_4_code
def xaNS (own : String) (ic : Nat) : List Cond := Bundle.throwableAtoms ++ Bundle.throwableSAtoms ++ (Bundle.passSAtoms eNS eRT 13 bNS ++ Bundle.chainSAtoms eRT [eEX]) ++
  [.methodLink own ic (Bundle.initS eNS), .instantiable eNS 6, .castable eNS eNS, .selects eNS Bundle.tFill0 Bundle.tFill0, .selects eNS Bundle.tFill Bundle.tFill,
   .lays eNS Bundle.tN "cause" "Ljava/lang/Throwable;", .lays eNS Bundle.tN "stackTrace" Bundle.steD, .lays eNS Bundle.tN "suppressedExceptions" Bundle.listD, .lays eNS Bundle.tN "detailMessage" "Ljava/lang/String;",
   .isRef (.static Bundle.tN "UNASSIGNED_STACK" Bundle.steD), .isRef (.static Bundle.tN "SUPPRESSED_SENTINEL" Bundle.listD),
   .fieldLink Bundle.tN 198 Bundle.tN "backtrace" "Ljava/lang/Object;", .lays Bundle.tN Bundle.tN "backtrace" "Ljava/lang/Object;", .lays eNS Bundle.tN "backtrace" "Ljava/lang/Object;"]
def xaNSf (own : String) (ic : Nat) : List Cond := (xaNS own ic).filter vx_no
theorem at_145 : ∀ w ∈ xaNSf RX11 145, w ∈ UU ∨ w ∈ xws := uu_or (by decide +kernel) (by decide +kernel)
section NSE
variable {p : Program} {l : Launch} {e : Env} {R : Room} {s : State} {m : MethodId} {args : Array Value} {below : List Frame} {meth : Method} {c : Code} {H : Heap} {locs : List Loc} {cells slots : Nat}
set_option maxHeartbeats 1000000 in
theorem lx_ctorNS {V : State} (X : Stand p l e R s m args below meth c V locs cells slots) (hexec : p.tables.exec = Jvm.exec) (htr : e.platform.stackTraces = false) {own : String} {ic : Nat} (hown : s.vm.findClass own = some m.cls)
    (h : ∀ w ∈ xaNS own ic, w.before args s = true) (hlocs : ∀ x ∈ locs, ∀ cell, s.heap[x.base]? = some cell → cell.vm.isStatics = false)
    {a : Addr} {cX : ClassId} {kX : Class} (hfoundX : s.vm.findClass eNS = some cX) (hkX : s.vm.classes[cX]? = some kX) (hcell : V.heap[a]? = some (freshCell cX kX)) (hnew : s.heap.size ≤ a) {msg : Value} (hmsg : msg.isRef = true)
    {g : JFrame} (hg : g.method = m) (hsize : g.locals.size = c.maxLocals) (hlocked : g.locked = none) (hentered : g.entered = []) {rest : List Value} (hstack : g.stack = msg :: .ref a :: .ref a :: rest)
    (hd6 : decode c.code g.pc = .ok (.invokespecial ic, 3)) (hd9 : decode c.code (g.pc + 3) = .ok (.athrow, 1)) (hout : ∀ x ∈ c.exceptionTable.toList, covers x (g.pc + 3) = false)
    (hRframes : 5 < R.frames) (hRlocals : 2 * g.monitorRoom + ((Value.ref a :: rest).map fun v => v.category).sum + 81 ≤ R.locals) (hlocks : meth.locks = false) :
    ∃ U : State, Steps p.tables e below (V.setTop g) U ∧ U.status = .running ∧ Ended U below (.threw a) ∧ s.WarmedH U.vm ∧ s.sameButNew ({ U with vm := s.vm } : State) locs cells slots ∧
      ∃ ce, U.heap[a]? = some ce ∧ ce.vm = .none ∧ s.vm.findClass eNS = some ce.cls := by
  have howns : e.platform.frameOwnsMonitors = true := by rw [X.admits.platform]
  have hfin : e.platform.finalization = false := by rw [X.admits.platform]
  have hpl : e.platform.magicAccessors = ({} : Platform).magicAccessors := by rw [X.admits.platform]
  have a' : ∀ x, x ∈ xaNS own ic → x.holds args s none s [] = true := fun x hx => h x hx
  obtain ⟨T, Z0, L, -, Y⟩ := ThrowableC.of_atoms (args := args) howns hfin hpl (fun x hx => h x (by simp [xaNS, hx]))
  obtain ⟨Z, M, LZ, LM, hnZ⟩ := Init0T.ofS_atoms (args := args) hpl L Y (fun x hx => h x (by simp [xaNS, hx]))
  obtain ⟨P1, L1, hP1m, hs1⟩ := PassC.ofS_atoms (args := args) (s := s) hpl (X := eNS) (Y := eRT) (index := 13) (bytes := bNS) (by decide) (by decide) (by decide +kernel) (by decide +kernel) (by decide +kernel) (by decide +kernel) (fun x hx => h x (by simp only [xaNS, List.mem_append]; exact Or.inl (Or.inr (Or.inl hx))))
  obtain ⟨P2, Ps, hlen, L2, hL, hP2m, hlink2, hlink⟩ := Bundle.chainS (args := args) hpl hnZ [eEX] eRT (by decide) (by decide) (fun x hx => h x (by simp only [xaNS, List.mem_append]; exact Or.inl (Or.inr (Or.inr hx))))
  have hfound : s.vm.findClass eNS = some P1.m.cls := findClass_of_methodNamed hP1m
  cases Option.some.inj (hfoundX.symm.trans hfound)
  obtain ⟨c1, kX', hc1, hk, hord, -, -, hn6⟩ := Cond.instantiable_spec (a' (.instantiable eNS 6) (by simp [xaNS]))
  cases Option.some.inj (hc1.symm.trans hfound)
  cases Option.some.inj (hkX.symm.trans hk)
  have hsel0 : selectMethod e.platform s.vm P1.m.cls T.fill0 = .method T.fill0 := by
    obtain ⟨c2, r2, m2, q1, q2, q3, q4, -⟩ := Cond.selects_spec (a' (.selects eNS Bundle.tFill0 Bundle.tFill0) (by simp [xaNS]))
    cases Option.some.inj (q1.symm.trans hfound)
    cases Option.some.inj (q2.symm.trans (State.methodFound?_of_named Y.fill0 (by decide)))
    cases Option.some.inj (q3.symm.trans Y.fill0)
    rw [Launch.admits_selectMethod X.admits]; exact q4
  have hselF : selectMethod e.platform s.vm P1.m.cls T.fill = .method T.fill := by
    obtain ⟨c2, r2, m2, q1, q2, q3, q4, -⟩ := Cond.selects_spec (a' (.selects eNS Bundle.tFill Bundle.tFill) (by simp [xaNS]))
    cases Option.some.inj (q1.symm.trans hfound)
    cases Option.some.inj (q2.symm.trans (State.methodFound?_of_named Y.fill (by decide)))
    cases Option.some.inj (q3.symm.trans Y.fill)
    rw [Launch.admits_selectMethod X.admits]; exact q4
  obtain ⟨cellS0, hcS0, hiss⟩ := Y.statics
  obtain ⟨u0, hu0⟩ := Cond.staticRefV Y.unassigned L.unassignedStatic L.statics hcS0 hiss (a' (.isRef (.static Bundle.tN "UNASSIGNED_STACK" Bundle.steD)) (by simp [xaNS]))
  obtain ⟨sen, hsen⟩ := Cond.staticRefV Y.sentinel L.sentinelStatic L.statics hcS0 hiss (a' (.isRef (.static Bundle.tN "SUPPRESSED_SENTINEL" Bundle.listD)) (by simp [xaNS]))
  obtain ⟨ci198, i198, fB, hk198, hg198, ha198, hsB, -, hnB, htB, hffB⟩ := Cond.ownField (t := .object "java/lang/Object") Y.found L.cls (by decide +kernel) (a' (.fieldLink Bundle.tN 198 Bundle.tN "backtrace" "Ljava/lang/Object;") (by simp [xaNS])) (a' (.lays Bundle.tN Bundle.tN "backtrace" "Ljava/lang/Object;") (by simp [xaNS])) e.platform hpl
  obtain ⟨cellS, hcS', heS, -, hkeep⟩ := X.same.2.2.2.2.2 T.aS cellS0 hcS0
  have hcellS : V.heap[T.aS]? = some cellS := hcS'
  have hout' : ∀ i, (⟨T.aS, i⟩ : Loc) ∉ locs := fun i hmem => by
    have := hlocs _ hmem cellS0 hcS0
    rw [hiss] at this; cases this
  have hknownS : cellS.vm ≠ .unknown := by
    rw [heS]; intro hu
    rw [show cellS0.vm = .unknown from hu] at hiss
    cases hiss
  have hneS : T.aS ≠ a := Nat.ne_of_lt (Nat.lt_of_lt_of_le (Array.getElem?_eq_some_iff.mp hcS0).1 hnew)
  obtain ⟨iM, hffM⟩ := Y.msg
  obtain ⟨tyC, dC, hdC, hdnC⟩ := Cond.laysAt hfound hk Y.cause (a' (.lays eNS Bundle.tN "cause" "Ljava/lang/Throwable;") (by simp [xaNS]))
  obtain ⟨tyS, dS, hdS, hdnS⟩ := Cond.laysAt hfound hk Y.stack (a' (.lays eNS Bundle.tN "stackTrace" Bundle.steD) (by simp [xaNS]))
  obtain ⟨tyP, dP, hdP, hdnP⟩ := Cond.laysAt hfound hk Y.supp (a' (.lays eNS Bundle.tN "suppressedExceptions" Bundle.listD) (by simp [xaNS]))
  obtain ⟨tyM, dM, hdM, hdnM⟩ := Cond.laysAt hfound hk hffM (a' (.lays eNS Bundle.tN "detailMessage" "Ljava/lang/String;") (by simp [xaNS]))
  obtain ⟨tyB, dB, hdB, hdnB⟩ := Cond.laysAt hfound hk hffB (a' (.lays eNS Bundle.tN "backtrace" "Ljava/lang/Object;") (by simp [xaNS]))
  have bC := Cond.laysApart hdB hdC hdnB hdnC (by rw [hnB, Y.causeName]; decide)
  have bS := Cond.laysApart hdB hdS hdnB hdnS (by rw [hnB, Y.stackName]; decide)
  have bP := Cond.laysApart hdB hdP hdnB hdnP (by rw [hnB, Y.suppName]; decide)
  have hskip : SkipFacts T e.platform s (fun u => u) u0 ((preparedCellV T.toThrowableT (freshCell P1.m.cls kX) a u0 sen).withEntry V.cur) :=
    ⟨{ ci198 := ci198, i198 := i198, fBack := fB }, ⟨hk198, hg198, ha198, hsB⟩, by
      have := fresh_default (c := P1.m.cls) tyB
      rw [htB] at this
      simpa [preparedCellV, Cell.setSlot, Cell.withEntry, Array.getElem?_setIfInBounds, bC, bS, bP, bC.symm, bS.symm, bP.symm, defaultValue] using this, fun _ _ => rfl⟩
  obtain ⟨tm, methC, cdC, kC, vm₁, hnC, -, -, -, -, -, -, -, hW₁, st1⟩ := Steps.initColdS (tb := p.tables) (e := e) (below := below) (s := s) (U := V) X.here hexec X.warmed hpl hown (t := Bundle.initS eNS) rfl rfl (by decide)
    (a' (.methodLink own ic (Bundle.initS eNS)) (by simp [xaNS])) (h (.instanceMethod (Bundle.initS eNS)) (by simp [xaNS, Bundle.passSAtoms])) (bytes := bNS) (maxL := 2) (h (.code (Bundle.initS eNS) bNS 2 none) (by simp [xaNS, Bundle.passSAtoms]))
    (f := g) hg (a := a) (msg := msg) (rest := .ref a :: rest) hstack hd6
  cases Option.some.inj (hnC.symm.trans hP1m)
  have X₁ := X.noted hW₁
  have hlen3 : (P1 :: P2 :: Ps).length = 3 := by simp only [List.length_cons, hlen]; rfl
  obtain ⟨vm₂, X₂, st2⟩ := X₁.ctorMessageOffV hexec (g := { g with stack := .ref a :: rest }) hg hsize T L Z LZ M LM (P1 :: P2 :: Ps)
    (fun P hP => by
      rcases List.mem_cons.mp hP with rfl | hP
      · exact L1
      rcases List.mem_cons.mp hP with rfl | hP
      · exact L2
      · exact hL P hP) ⟨Option.some.inj (hs1.symm.trans hP2m), hlink2, hlink⟩ (u0 := u0) (sen := sen) (self := a) hmsg (cell := freshCell P1.m.cls kX) (cellS := cellS)
    hcell (fun _ => by simp) (by simp) rfl rfl hsel0 hselF hcellS hneS hknownS (by rw [hkeep _ (hout' _)]; exact hu0) (by rw [hkeep _ (hout' _)]; exact hsen)
    (Takes.of_laid hk hord tyC (by rw [Y.causeType]; rfl)) (Takes.of_laid hk hord tyS (by rw [Y.stackType]; exact fits_refV_array _ u0)) (Takes.of_laid hk hord tyP (by rw [Y.suppType]; exact fits_refV_object _ sen))
    (Takes.of_laid hk hord tyM (by rw [Y.msgType]; exact fits_refV_object _ ⟨msg, hmsg⟩)) Y.objLocals hskip htr [] hd6
    (by rw [hlen3]; omega) (by rw [hlen3]; exact hRlocals)
  obtain ⟨hwalk, hrun, hended, hWU, hsame⟩ := X₂.athrowLeaves hexec (g := { g with stack := .ref a :: rest, pc := g.pc + 3 }) hg hlocked hentered hout (a := a) (rest := rest) rfl hd9
  have hlt : a < ((V.setVm vm₁).setVm vm₂).heap.size := (Array.getElem?_eq_some_iff.mp hcell).1
  have hU := heapAt_setCell_self (s := (V.setVm vm₁).setVm vm₂) (plainBareV T.toThrowableT (freshCell P1.m.cls kX) a u0 sen msg) hlt
  refine ⟨_, st1 _ (fun acts => ?_), hrun, hended, hWU, hsame.weaken (fun y hy hlt' => ?_) (Nat.le_refl _) (Nat.le_refl _), _, hU, rfl, hfound⟩
  · rw [doInvoke_state]
    exact st2 _ hwalk
  · rcases List.mem_append.mp hy with h1 | h1
    · exact h1
    · exfalso
      have hb : y.base = a := by
        simp only [List.mem_cons, List.not_mem_nil, or_false] at h1
        rcases h1 with rfl | rfl | rfl | rfl | rfl <;> rfl
      rw [hb] at hlt'
      exact Nat.not_lt.mpr hnew hlt'
end NSE
