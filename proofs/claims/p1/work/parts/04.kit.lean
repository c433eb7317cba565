/-! Own rows: one list of words for every method, contracts of one shape, a row a call -/
def UU : List Cond := lw_tbl.filter goodWord
theorem uu_mem {w : Cond} (i : Nat) (h : lw_tbl[i]? = some w) (hg : goodWord w = true) : w ∈ UU := List.mem_filter.mpr ⟨List.mem_of_getElem? h, hg⟩
theorem uu_good {w : Cond} (h : w ∈ UU) : goodWord w = true := (List.mem_filter.mp h).2
theorem uu_gi {w : Cond} (h : w ∈ UU) : GoodIn UU (w :: UU) := fun v hv => (List.mem_cons.mp hv).elim (fun e => by rw [e]; exact ⟨h, good_of_word (uu_good h)⟩) (fun hv => ⟨hv, good_of_word (uu_good hv)⟩)
theorem uu_sub {ws : List Cond} (h1 : ∀ w ∈ ws, w ∈ lw_tbl) (h2 : ∀ w ∈ ws, goodWord w = true) : ∀ w ∈ ws, w ∈ UU := fun w h => List.mem_filter.mpr ⟨h1 w h, h2 w h⟩
abbrev tysP (cy : Nat → ClassId) : List (ClassId × FieldType) := [(cy 0, .byte), (cy 1, .int), (cy 2, .long), (cy 3, .boolean), (cy 4, .object "PlaneProof$Line"), (cy 5, .object "PlaneProof$Closure")]
def kK (G : va_G) (cy : Nat → ClassId) (U : State) : Prop := va_K G vwCl (tysP cy) U ∧ va_AO "PlaneProof$Line" U ∧ va_AO "PlaneProof$Closure" U
theorem kK.moved {G : va_G} {cy : Nat → ClassId} {u U : State} (hvm : u.vm.Alike U.vm) (h : kK G cy u) : kK G cy U := ⟨va_K.moved hvm h.1, va_AO.moved hvm h.2.1, va_AO.moved hvm h.2.2⟩
def kt_Pc (G : va_G) (cy : Nat → ClassId) (av : List Value) (wc : va_W) (sz : Nat) : Array Value → State → Prop := va_Pc av (fun U => U.heap.size = sz ∧ va_P G vwCl wc U.heap ∧ kK G cy U ∧ va_D (fun _ => True) wc)
def kt_Q (G : va_G) (post : Option Value → va_W → Prop) (A : Nat → Prop) : Array Value → State → Outcome → State → Prop := fun _ st o t => (∃ (v : Option Value) (w1 : va_W), o = .returned v ∧ post v w1 ∧ va_P G vwCl w1 t.heap ∧ va_D A w1) ∧ va_F A st t
/-- a contract of a method that doesn't throw -/
def Kt (l : Launch) (G : va_G) (cy : Nat → ClassId) (y : MethodName) (cc : ByteArray) (maxL : Nat) (ret : Option FieldType) (rm : Room) (av : List Value) (wc : va_W) (post : Option Value → va_W → Prop) : Prop :=
  ∀ sz : Nat, Met l y (Cond.code y cc maxL ret :: UU) rm (kt_Pc G cy av wc sz) (kt_Q G post (va_A wc sz)) rm.cells rm.slots (va_A wc sz)
theorem kt_ofW {l : Launch} {G : va_G} {cy : Nat → ClassId} {y : MethodName} {cc : ByteArray} {maxL : Nat} {ret : Option FieldType} {rm : Room} {av : List Value} {wc : va_W} {post : Option Value → va_W → Prop} (hy : plainName y.cls = true) (hlen : (lg_sl av).length ≤ maxL)
    (body : ∀ (p : Program) (e : Env) (s : State) (m : MethodId) (below : List Frame) (meth : Method) (c : Code) (A : Nat → Prop) (ls : Array Slot), p.tables.exec = Jvm.exec → c.code = cc → meth.sig.returnType = ret → (∀ w ∈ UU, w.before av.toArray s = true) → s.vm.findClass y.cls = some m.cls → meth.locks = false → c.maxLocals = maxL → meth.name = y.name → va_P G vwCl wc s.heap → kK G cy s → va_D A wc → (∀ q, s.heap.size ≤ q → A q) → va_S A s.heap s.heap [] → lv_has ls maxL (lv_args 0 av) →
      W p l e rm s m av.toArray below meth c s.heap [] 0 0 (MQ below (kt_Q G post A) av.toArray s rm.cells rm.slots A) (F0 m 0 ls [])) : Kt l G cy y cc maxL ret rm av wc post := by
  intro sz
  refine Met.ofW (cc := cc) (maxL := maxL) (ret := ret) hy rfl ?_
  intro p e s m args below meth c s₁ B hml hv
  obtain ⟨rfl, hsz, hP, hK, hD0⟩ := hv
  subst hsz
  have hts := atoms_spec (ws := Cond.code y cc maxL ret :: UU) B.pre
  rw [lg_entry_eq]
  exact body p e s m below meth c (va_A wc s.heap.size) _ B.exec B.bytes B.returns (fun w h => hts w (List.mem_cons_of_mem _ h)) (findClass_of_methodNamed B.named) B.notSynchronized hml (name_of_methodNamed B.named B.method).1 hP hK hD0.self (fun q h => Or.inr h) va_S.rf (lv_entry av hlen)
def lx_ok (isC isR : List Nat) : Bool := va_nd isC && va_nd isR && isR.all (fun i => !isC.contains i)
theorem lx_okc {isC isR : List Nat} (h : lx_ok isC isR = true) : va_nd isC = true := by simp only [lx_ok, Bool.and_eq_true] at h; exact h.1.1
theorem lx_okr {isC isR : List Nat} (h : lx_ok isC isR = true) : va_nd isR = true := by simp only [lx_ok, Bool.and_eq_true] at h; exact h.1.2
theorem lx_okd {isC isR : List Nat} (h : lx_ok isC isR = true) : ∀ i ∈ isR, i ∉ isC := by
  simp only [lx_ok, Bool.and_eq_true] at h
  intro i hi hc
  have := List.all_eq_true.mp h.2 i hi
  simp [hc] at this
theorem lx_fm {isW : List Nat} {w w1 : va_W} (h : isW.map (fun i => w[i]?) = w1.map some) : isW.filterMap (fun i => w[i]?) = w1 := by
  have h2 : (isW.map (fun i => w[i]?)).filterMap id = (w1.map some).filterMap id := by rw [h]
  simpa [List.filterMap_map] using h2
def lx_room (rm R : Room) (maxL cells slots : Nat) : Bool := Nat.ble (rm.frames + 1) R.frames && Nat.ble (8 + (maxL + 11) + rm.locals) R.locals && (Nat.ble (cells + rm.cells) R.cells && Nat.ble (slots + rm.slots) R.slots)
theorem lx_rooma {rm R : Room} {maxL cells slots : Nat} (h : lx_room rm R maxL cells slots = true) : rm.frames + 1 ≤ R.frames ∧ 8 + (maxL + 11) + rm.locals ≤ R.locals := by
  simp only [lx_room, Bool.and_eq_true] at h; exact ⟨Nat.le_of_ble_eq_true h.1.1, Nat.le_of_ble_eq_true h.1.2⟩
theorem lx_roomb {rm R : Room} {maxL cells slots : Nat} (h : lx_room rm R maxL cells slots = true) : cells + rm.cells ≤ R.cells ∧ slots + rm.slots ≤ R.slots := by
  simp only [lx_room, Bool.and_eq_true] at h; exact ⟨Nat.le_of_ble_eq_true h.2.1, Nat.le_of_ble_eq_true h.2.2⟩
def mD (y : MethodName) (n : Nat) : Prop := y.cls ≠ "java/lang/invoke/MethodHandle" ∧ y.cls ≠ "java/lang/invoke/VarHandle" ∧ (parseMethodDescriptor y.desc).map (fun d => d.parameters.length) = some n
def mV (y : MethodName) (bytes : ByteArray) (maxL : Nat) (ret : Option FieldType) (n : Nat) : Prop := Cond.code y bytes maxL ret ∈ UU ∧ Cond.instanceMethod y ∈ UU ∧ Cond.selects y.cls y y ∈ UU ∧ Cond.initialized y.cls ∈ UU ∧ mD y n
def mS (y : MethodName) (bytes : ByteArray) (maxL : Nat) (ret : Option FieldType) (n : Nat) : Prop := Cond.code y bytes maxL ret ∈ UU ∧ Cond.static y ∈ UU ∧ Cond.initialized y.cls ∈ UU ∧ mD y n
def mI (y : MethodName) (bytes : ByteArray) (maxL : Nat) (n : Nat) : Prop := Cond.code y bytes maxL none ∈ UU ∧ Cond.instanceMethod y ∈ UU ∧ Cond.initialized y.cls ∈ UU ∧ y.name = "<init>" ∧ mD y n
section KC
variable {p : Program} {l : Launch} {e : Env} {R : Room} {s : State} {m : MethodId} {args : Array Value} {below : List Frame} {meth : Method} {c : Code} {H H0 : Heap} {locs : List Loc} {cells slots : Nat} {Q : State → Prop} {A : Nat → Prop} {G : va_G} {cy : Nat → ClassId} {cc : ByteArray} {pc : Nat} {ls : Array Slot} {st0 rest : List Value} {w wc wr : va_W} {post : Option Value → va_W → Prop}
theorem kt_go {mc ms : Nat} {a : Array Value} (hrun : va_Run p l e R s m args below meth c H locs cells slots mc ms (F0 m pc ls st0) rest (kt_Q G post (va_A wc H.size) a) (va_A wc H.size)) (hP : va_P G vwCl w H) (hD : va_D A w) (hS : va_S A H0 H locs) (hA : ∀ q, H0.size ≤ q → A q) (isC isR : List Nat) (hC : isC.map (fun i => w[i]?) = wc.map some) (hR : isR.map (fun i => w[i]?) = wr.map some) (hok : lx_ok isC isR = true)
    (kk : ∀ (v : Option Value) (w1 : va_W) (H1 : Heap) (locs1 : List Loc), post v w1 → va_P G vwCl (wr ++ w1) H1 → va_D A (wr ++ w1) → va_S A H0 H1 locs1 → W p l e R s m args below meth c H1 locs1 (cells + mc) (slots + ms) Q (F0 m (pc + 3) ls (v.toList ++ rest))) : W p l e R s m args below meth c H locs cells slots Q (F0 m pc ls st0) := by
  intro T hT X
  obtain ⟨v, st₀, t, T', L, h0, X', hL, e1, e2, ⟨⟨v', w1, hv, hp, hP1, hD1⟩, hz, hk⟩, st⟩ := hrun T hT X
  cases hv
  rw [h0] at hz hk
  have hF := va_free (wc := wc) hD hS hA isC hC
  rw [← e1] at hP1 hz hk
  obtain ⟨hP2, hD2⟩ := va_join (wr := wr) (w1 := w1) hP hD isC isR hC hR (lx_okr hok) (lx_okd hok) hk hF hP1 hD1
  obtain ⟨t2, a1, b1⟩ := kk v w1 T'.heap (locs ++ L) hp hP2 hD2
    ⟨Nat.le_trans hS.1 hz, fun q h1 h2 => by rw [hk q (Nat.lt_of_lt_of_le h1 hS.1) (fun z => h2 (hF q z))]; exact hS.2.1 q h1 h2, fun q hq => by
      rcases List.mem_append.mp hq with h | h
      · exact hS.2.2 q h
      · exact hF _ (hL q h)⟩ T' rfl X'
  exact ⟨t2, st t2 a1, b1⟩
theorem kt_pre {av : List Value} (hK : kK G cy s) (hP : va_P G vwCl w H) (hD : va_D A w) (isC : List Nat) (hC : isC.map (fun i => w[i]?) = wc.map some) (hn : va_nd isC = true) : PreS s H (kt_Pc G cy av wc H.size) av :=
  ⟨fun a U g mk q => by obtain ⟨q0, q1, qP, qK, qD⟩ := q; exact ⟨q0, q1, qP, kK.moved (u := U) (U := U.calling g mk a) (Vm.Alike.refl U.vm) qK, qD⟩,
   fun U hU hW => ⟨rfl, by rw [hU], by rw [hU]; exact hP.sub isC (lx_fm hC), kK.moved hW.alike hK, (hD.sub isC hn hC).weaken (fun _ _ _ _ => trivial)⟩⟩
theorem kt_callV {own : String} {y : MethodName} {bytes : ByteArray} {maxL nL n index : Nat} {ret : Option FieldType} {rm : Room} {As : List Value} {b : Nat} (hM : Kt l G cy y bytes maxL ret rm (.ref b :: As) wc post) (hm : mV y bytes maxL ret n) (hl : Cond.methodLink own index y ∈ UU)
    (hx : p.tables.exec = Jvm.exec) (hb : c.code = cc) (hml : c.maxLocals = nL) (hown : s.vm.findClass own = some m.cls) (hU : ∀ w ∈ UU, w.before args s = true) (hls : ls.size = nL) (hK : kK G cy s) (hP : va_P G vwCl w H) (hD : va_D A w) (hS : va_S A H0 H locs) (hA : ∀ q, H0.size ≤ q → A q)
    (hdg : decode cc pc = .ok (.invokevirtual index, 3)) (isC isR : List Nat) (hC : isC.map (fun i => w[i]?) = wc.map some) (hR : isR.map (fun i => w[i]?) = wr.map some) (hok : lx_ok isC isR = true) (hroom : lx_room rm R maxL cells slots = true)
    (hn : As.length = n) (hst : st0 = As.reverse ++ .ref b :: rest) (hrest : (rest.map fun v => v.category).sum ≤ 8)
    {ci : Nat} {q : vw_C} {fs : List Value} (hcl : vwCl[ci]? = some q) (hq0 : wc[0]? = some (b, .inr (ci, fs))) (hqC : q.1 = y.cls)
    (kk : ∀ (v : Option Value) (w1 : va_W) (H1 : Heap) (locs1 : List Loc), post v w1 → va_P G vwCl (wr ++ w1) H1 → va_D A (wr ++ w1) → va_S A H0 H1 locs1 → W p l e R s m args below meth c H1 locs1 (cells + rm.cells) (slots + rm.slots) Q (F0 m (pc + 3) ls (v.toList ++ rest))) : W p l e R s m args below meth c H locs cells slots Q (F0 m pc ls st0) := by
  obtain ⟨u0, u2, u3, u4, hd⟩ := hm
  have hpre := kt_pre (av := .ref b :: As) (wc := wc) hK hP hD isC hC (lx_okc hok)
  have hrec : ∃ cell : Cell, H[b]? = some cell ∧ cell.vm.isStatics = false ∧ s.vm.findClass y.cls = some cell.cls := by
    rw [← hqC]; exact va_recv hK.1 (hP.sub isC (lx_fm hC)) hcl hq0
  exact kt_go (va_runV (C := y.cls) (As := As) (rest := rest) ⟨hx, hb, hml, hown, hU⟩ (hM H.size) ⟨callB_of n hU (uu_gi u0) rfl rfl rfl (hU _ u4) (hU _ hl) hd (lx_rooma hroom), hU _ u2, hU _ u3⟩ ⟨hpre.1, hrec, hpre.2⟩ rfl hn hls hst (lv_room hrest) hdg (lx_roomb hroom)) hP hD hS hA isC isR hC hR hok kk
theorem kt_callS {own : String} {y : MethodName} {bytes : ByteArray} {maxL nL n index : Nat} {ret : Option FieldType} {rm : Room} {As : List Value} (hM : Kt l G cy y bytes maxL ret rm As wc post) (hm : mS y bytes maxL ret n) (hl : Cond.methodLink own index y ∈ UU)
    (hx : p.tables.exec = Jvm.exec) (hb : c.code = cc) (hml : c.maxLocals = nL) (hown : s.vm.findClass own = some m.cls) (hU : ∀ w ∈ UU, w.before args s = true) (hls : ls.size = nL) (hK : kK G cy s) (hP : va_P G vwCl w H) (hD : va_D A w) (hS : va_S A H0 H locs) (hA : ∀ q, H0.size ≤ q → A q)
    (hdg : decode cc pc = .ok (.invokestatic index, 3)) (isC isR : List Nat) (hC : isC.map (fun i => w[i]?) = wc.map some) (hR : isR.map (fun i => w[i]?) = wr.map some) (hok : lx_ok isC isR = true) (hroom : lx_room rm R maxL cells slots = true)
    (hn : As.length = n) (hst : st0 = As.reverse ++ rest) (hrest : (rest.map fun v => v.category).sum ≤ 8)
    (kk : ∀ (v : Option Value) (w1 : va_W) (H1 : Heap) (locs1 : List Loc), post v w1 → va_P G vwCl (wr ++ w1) H1 → va_D A (wr ++ w1) → va_S A H0 H1 locs1 → W p l e R s m args below meth c H1 locs1 (cells + rm.cells) (slots + rm.slots) Q (F0 m (pc + 3) ls (v.toList ++ rest))) : W p l e R s m args below meth c H locs cells slots Q (F0 m pc ls st0) := by
  obtain ⟨u0, u2, u4, hd⟩ := hm
  have hpre := kt_pre (av := As) (wc := wc) hK hP hD isC hC (lx_okc hok)
  exact kt_go (va_runS (As := As) (rest := rest) ⟨hx, hb, hml, hown, hU⟩ (hM H.size) ⟨callB_of n hU (uu_gi u0) rfl rfl rfl (hU _ u4) (hU _ hl) hd (lx_rooma hroom), hU _ u2⟩ hpre rfl hn hls hst (lv_room hrest) hdg (lx_roomb hroom)) hP hD hS hA isC isR hC hR hok kk
theorem kt_callI {own : String} {y : MethodName} {bytes : ByteArray} {maxL nL n index : Nat} {rm : Room} {As : List Value} {b : Nat} (hM : Kt l G cy y bytes maxL none rm (.ref b :: As) wc post) (hm : mI y bytes maxL n) (hl : Cond.methodLink own index y ∈ UU)
    (hx : p.tables.exec = Jvm.exec) (hb : c.code = cc) (hml : c.maxLocals = nL) (hown : s.vm.findClass own = some m.cls) (hU : ∀ w ∈ UU, w.before args s = true) (hls : ls.size = nL) (hK : kK G cy s) (hP : va_P G vwCl w H) (hD : va_D A w) (hS : va_S A H0 H locs) (hA : ∀ q, H0.size ≤ q → A q)
    (hdg : decode cc pc = .ok (.invokespecial index, 3)) (isC isR : List Nat) (hC : isC.map (fun i => w[i]?) = wc.map some) (hR : isR.map (fun i => w[i]?) = wr.map some) (hok : lx_ok isC isR = true) (hroom : lx_room rm R maxL cells slots = true)
    (hn : As.length = n) (hst : st0 = As.reverse ++ .ref b :: rest) (hrest : (rest.map fun v => v.category).sum ≤ 8)
    (kk : ∀ (v : Option Value) (w1 : va_W) (H1 : Heap) (locs1 : List Loc), post v w1 → va_P G vwCl (wr ++ w1) H1 → va_D A (wr ++ w1) → va_S A H0 H1 locs1 → W p l e R s m args below meth c H1 locs1 (cells + rm.cells) (slots + rm.slots) Q (F0 m (pc + 3) ls (v.toList ++ rest))) : W p l e R s m args below meth c H locs cells slots Q (F0 m pc ls st0) := by
  obtain ⟨u0, u2, u4, hy1, hd⟩ := hm
  have hpre := kt_pre (av := .ref b :: As) (wc := wc) hK hP hD isC hC (lx_okc hok)
  exact kt_go (va_runI (As := As) (rest := rest) ⟨hx, hb, hml, hown, hU⟩ (hM H.size) ⟨callB_of n hU (uu_gi u0) rfl rfl rfl (hU _ u4) (hU _ hl) hd (lx_rooma hroom), hy1, hU _ u2⟩ hpre rfl hn hls hst (lv_room hrest) hdg (lx_roomb hroom)) hP hD hS hA isC isR hC hR hok kk
theorem kt_iret {mc ms : Nat} (hx : p.tables.exec = Jvm.exec) (hb : c.code = cc) (hr : meth.sig.returnType = some .int) (hlocks : meth.locks = false) (hP : va_P G vwCl w H) (hD : va_D A w) (hS : va_S A s.heap H locs) {v : Int32} (hd : decode cc pc = .ok (.ireturn, 1)) (isW : List Nat) {w1 : va_W} (hsub : isW.map (fun i => w[i]?) = w1.map some) (hnd : va_nd isW = true) (h1 : Nat.ble cells mc = true) (h2 : Nat.ble slots ms = true) (hpost : post (some (.int v)) w1) : W p l e R s m args below meth c H locs cells slots (MQ below (kt_Q G post A) args s mc ms A) (F0 m pc ls [.int v]) :=
  W.widen (Nat.le_of_ble_eq_true h1) (Nat.le_of_ble_eq_true h2) (W.iret hx hb hr (fun t ht hW => ⟨⟨some (.int v), w1, rfl, hpost, by rw [ht]; exact hP.sub isW (lx_fm hsub), hD.sub isW hnd hsub⟩, hS.F ht⟩) hS.2.2 hd hlocks)
theorem kt_zret {mc ms : Nat} (hx : p.tables.exec = Jvm.exec) (hb : c.code = cc) (hr : meth.sig.returnType = some .boolean) (hlocks : meth.locks = false) (hP : va_P G vwCl w H) (hD : va_D A w) (hS : va_S A s.heap H locs) {v : Int32} (hn : narrow .boolean (.int v) = .int v) (hd : decode cc pc = .ok (.ireturn, 1)) (isW : List Nat) {w1 : va_W} (hsub : isW.map (fun i => w[i]?) = w1.map some) (hnd : va_nd isW = true) (h1 : Nat.ble cells mc = true) (h2 : Nat.ble slots ms = true) (hpost : post (some (.int v)) w1) : W p l e R s m args below meth c H locs cells slots (MQ below (kt_Q G post A) args s mc ms A) (F0 m pc ls [.int v]) :=
  W.widen (Nat.le_of_ble_eq_true h1) (Nat.le_of_ble_eq_true h2) (W.zret hx hb hr hn (fun t ht hW => ⟨⟨some (.int v), w1, rfl, hpost, by rw [ht]; exact hP.sub isW (lx_fm hsub), hD.sub isW hnd hsub⟩, hS.F ht⟩) hS.2.2 hd hlocks)
theorem kt_lret {mc ms : Nat} (hx : p.tables.exec = Jvm.exec) (hb : c.code = cc) (hr : meth.sig.returnType = some .long) (hlocks : meth.locks = false) (hP : va_P G vwCl w H) (hD : va_D A w) (hS : va_S A s.heap H locs) {v : Int64} (hd : decode cc pc = .ok (.lreturn, 1)) (isW : List Nat) {w1 : va_W} (hsub : isW.map (fun i => w[i]?) = w1.map some) (hnd : va_nd isW = true) (h1 : Nat.ble cells mc = true) (h2 : Nat.ble slots ms = true) (hpost : post (some (.long v)) w1) : W p l e R s m args below meth c H locs cells slots (MQ below (kt_Q G post A) args s mc ms A) (F0 m pc ls [.long v]) :=
  W.widen (Nat.le_of_ble_eq_true h1) (Nat.le_of_ble_eq_true h2) (W.lret hx hb hr (fun t ht hW => ⟨⟨some (.long v), w1, rfl, hpost, by rw [ht]; exact hP.sub isW (lx_fm hsub), hD.sub isW hnd hsub⟩, hS.F ht⟩) hS.2.2 hd hlocks)
theorem kt_vret {mc ms : Nat} (hx : p.tables.exec = Jvm.exec) (hb : c.code = cc) (hr : meth.sig.returnType = none) (hlocks : meth.locks = false) (hP : va_P G vwCl w H) (hD : va_D A w) (hS : va_S A s.heap H locs) (hd : decode cc pc = .ok (.return_, 1)) (isW : List Nat) {w1 : va_W} (hsub : isW.map (fun i => w[i]?) = w1.map some) (hnd : va_nd isW = true) (h1 : Nat.ble cells mc = true) (h2 : Nat.ble slots ms = true) (hpost : post none w1) : W p l e R s m args below meth c H locs cells slots (MQ below (kt_Q G post A) args s mc ms A) (F0 m pc ls []) :=
  W.widen (Nat.le_of_ble_eq_true h1) (Nat.le_of_ble_eq_true h2) (W.vret hx hb hr (fun t ht hW => ⟨⟨none, w1, rfl, hpost, by rw [ht]; exact hP.sub isW (lx_fm hsub), hD.sub isW hnd hsub⟩, hS.F ht⟩) hS.2.2 hd hlocks)
theorem kt_aret {mc ms : Nat} {C : String} (hx : p.tables.exec = Jvm.exec) (hb : c.code = cc) (hr : meth.sig.returnType = some (.object C)) (hlocks : meth.locks = false) (hP : va_P G vwCl w H) (hD : va_D A w) (hS : va_S A s.heap H locs) {v : Nat} (hd : decode cc pc = .ok (.areturn, 1)) (isW : List Nat) {w1 : va_W} (hsub : isW.map (fun i => w[i]?) = w1.map some) (hnd : va_nd isW = true) (h1 : Nat.ble cells mc = true) (h2 : Nat.ble slots ms = true) (hpost : post (some (.ref v)) w1) : W p l e R s m args below meth c H locs cells slots (MQ below (kt_Q G post A) args s mc ms A) (F0 m pc ls [.ref v]) :=
  W.widen (Nat.le_of_ble_eq_true h1) (Nat.le_of_ble_eq_true h2) (W.aret hx hb hr (Or.inl ⟨_, rfl⟩) (Or.inr ⟨_, rfl⟩) (fun t ht hW => ⟨⟨some (.ref v), w1, rfl, hpost, by rw [ht]; exact hP.sub isW (lx_fm hsub), hD.sub isW hnd hsub⟩, hS.F ht⟩) hS.2.2 hd hlocks)
theorem lx_top {x y : Int32} (h : x = y) (k : W p l e R s m args below meth c H locs cells slots Q (F0 m pc ls (.int y :: rest))) : W p l e R s m args below meth c H locs cells slots Q (F0 m pc ls (.int x :: rest)) := h ▸ k
theorem lx_topl {x y : Int64} (h : x = y) (k : W p l e R s m args below meth c H locs cells slots Q (F0 m pc ls (.long y :: rest))) : W p l e R s m args below meth c H locs cells slots Q (F0 m pc ls (.long x :: rest)) := h ▸ k
/-- 'x != 0' as a number -/
theorem lx_ne0 (hx : p.tables.exec = Jvm.exec) (hb : c.code = cc) {x : Int32} {o1 o2 : Int} (d0 : decode cc pc = .ok (.ifCond .eq o1, 3)) (d3 : decode cc (pc + 3) = .ok (.iconst 1, 1)) (d4 : decode cc (pc + 4) = .ok (.goto o2, 3)) (d7 : decode cc (pc + 7) = .ok (.iconst 0, 1)) (h1 : (pc : Int) + o1 = ((pc + 7 : Nat) : Int)) (h2 : ((pc + 4 : Nat) : Int) + o2 = ((pc + 8 : Nat) : Int))
    (k : ∀ v : Int32, v = (if x = 0 then 0 else 1) → W p l e R s m args below meth c H locs cells slots Q (F0 m (pc + 8) ls (.int v :: rest))) : W p l e R s m args below meth c H locs cells slots Q (F0 m pc ls (.int x :: rest)) := by
  refine lv_if_eq hx hb d0 h1 (fun h => ?_) (fun h => ?_)
  · exact lv_iconst (v := 0) hx hb d7 (by decide) (k 0 (by rw [if_pos h]))
  · exact lv_iconst (v := 1) hx hb d3 (by decide) (lv_goto hx hb d4 h2 (k 1 (by rw [if_neg h])))
theorem lx_newa (hx : p.tables.exec = Jvm.exec) (hb : c.code = cc) {atype : ArrayType} {ty : FieldType} (hU : ∀ w ∈ UU, w.before args s = true) (hu : Cond.arrayClass (newarray.typeOf atype) ∈ UU) (hty : newarray.typeOf atype = ty) (hK : kK G cy s) (hP : va_P G vwCl w H) (hD : va_D A w) (hS : va_S A H0 H locs) (hA : ∀ q, H0.size ≤ q → A q) (t0 : Nat) {c0 : ClassId} (ht : (tysP cy)[t0]? = some (c0, ty)) (hra : ∀ (cA : ClassId), va_RA s cA ty → s.vm.findClass ("[" ++ ty.toString) = some cA)
    {n : Int32} {N' : Nat} {a0 : vp_A} (ha : ∀ cA : ClassId, vp_cell cA a0 = arrV cA N' (fun _ => defaultValue ty)) (hn : ¬ n < 0) (hN : n.toNatClampNeg = N') (hbytes : N' * componentBytes ty ≤ 536870912) (hcells : cells + 1 ≤ R.cells) (hslots : slots + N' ≤ R.slots) (hdg : decode cc pc = .ok (.newarray atype, 2))
    (kk : ∀ (q : Nat) (H1 : Heap), va_P G vwCl (w ++ [(q, .inl (c0, a0))]) H1 → va_D A (w ++ [(q, .inl (c0, a0))]) → va_S A H0 H1 locs →
      W p l e R s m args below meth c H1 locs (cells + 1) (slots + N') Q (F0 m (pc + 2) ls (.ref q :: rest))) : W p l e R s m args below meth c H locs cells slots Q (F0 m pc ls (.int n :: rest)) := by
  refine va_newa hx hb (hU _ hu) hty hK.1 hP hD hS hA ha hn hN hbytes hcells hslots hdg (fun q cA H1 hK1 hP1 hD1 hS1 => ?_)
  have e1 := hra cA (hK1.2 (tysP cy).length (cA, ty) (by simp)).2
  have e2 := hra c0 (hK.1.2 t0 (c0, ty) ht).2
  cases Option.some.inj (e1.symm.trans e2)
  exact kk q H1 hP1 hD1 hS1
theorem lx_newq (hx : p.tables.exec = Jvm.exec) (hb : c.code = cc) {own C : String} {index : Nat} (hown : s.vm.findClass own = some m.cls) (hU : ∀ w ∈ UU, w.before args s = true) (hu : Cond.classLink own index C ∈ UU) (hover : va_AO C s) (hK : kK G cy s) (hP : va_P G vwCl w H) (hD : va_D A w) (hS : va_S A H0 H locs) (hA : ∀ q, H0.size ≤ q → A q) (t0 : Nat) {c0 : ClassId} (ht : (tysP cy)[t0]? = some (c0, .object C))
    {n : Int32} {N' : Nat} (hn : ¬ n < 0) (hN : n.toNatClampNeg = N') (hbytes : N' * 4 ≤ 536870912) (hcells : cells + 1 ≤ R.cells) (hslots : slots + N' ≤ R.slots) (hdg : decode cc pc = .ok (.anewarray index, 3))
    (kk : ∀ (q : Nat) (H1 : Heap), va_P G vwCl (w ++ [(q, .inl (c0, N', .inr (.inr (.inr (.inr (fun _ => none))))))]) H1 → va_D A (w ++ [(q, .inl (c0, N', .inr (.inr (.inr (.inr (fun _ => none))))))]) → va_S A H0 H1 locs →
      W p l e R s m args below meth c H1 locs (cells + 1) (slots + N') Q (F0 m (pc + 3) ls (.ref q :: rest))) : W p l e R s m args below meth c H locs cells slots Q (F0 m pc ls (.int n :: rest)) := by
  refine va_newq hx hb hown (hU _ hu) hover hK.1 hP hD hS hA hn hN hbytes hcells hslots hdg (fun q cA H1 hK1 hP1 hD1 hS1 => ?_)
  obtain ⟨_, _, _, _, _, e1⟩ := (hK1.2 (tysP cy).length (cA, .object C) (by simp)).2
  obtain ⟨_, _, _, _, _, e2⟩ := (hK.1.2 t0 (c0, .object C) ht).2
  cases Option.some.inj (e1.symm.trans e2)
  exact kk q H1 hP1 hD1 hS1
end KC
theorem lx_in {i : Int32} {n : Nat} (h : (decide (i < 0) || Nat.ble n i.toNatClampNeg) = false) : vp_in i n := by
  intro h2
  rw [Bool.or_eq_false_iff] at h
  rcases h2 with h2 | h2
  · exact absurd h2 (of_decide_eq_false h.1)
  · have := Nat.ble_eq_true_of_le h2
    rw [h.2] at this
    cases this
