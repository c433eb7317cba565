def mU (C : String) (x y : MethodName) (bytes : ByteArray) (maxL : Nat) (ret : Option FieldType) (n : Nat) : Prop := Cond.code y bytes maxL ret ∈ UU ∧ Cond.sameMethod x.cls y.cls x.name x.desc ∈ UU ∧ Cond.selects C x y ∈ UU ∧ Cond.instanceMethod y ∈ UU ∧ Cond.initialized y.cls ∈ UU ∧ y = ⟨y.cls, x.name, x.desc⟩ ∧ y.cls ≠ "java/lang/invoke/MethodHandle" ∧ y.cls ≠ "java/lang/invoke/VarHandle" ∧ (parseMethodDescriptor x.desc).map (fun d => d.parameters.length) = some n
theorem kt_callU {p : Program} {l : Launch} {e : Env} {R : Room} {s : State} {m : MethodId} {args : Array Value} {below : List Frame} {meth : Method} {c : Code} {H H0 : Heap} {locs : List Loc} {cells slots : Nat} {Q : State → Prop} {A : Nat → Prop} {G : va_G} {cy : Nat → ClassId} {cc : ByteArray} {pc : Nat} {ls : Array Slot} {st0 rest : List Value} {w wc wr : va_W} {post : Option Value → va_W → Prop}
    {own C : String} {x y : MethodName} {bytes : ByteArray} {maxL nL n index : Nat} {ret : Option FieldType} {rm : Room} {As : List Value} {b : Nat} (hM : Kt l G cy y bytes maxL ret rm (.ref b :: As) wc post) (hm : mU C x y bytes maxL ret n) (hl : Cond.methodLink own index x ∈ UU)
    (hx : p.tables.exec = Jvm.exec) (hb : c.code = cc) (hml : c.maxLocals = nL) (hown : s.vm.findClass own = some m.cls) (hU : ∀ w ∈ UU, w.before args s = true) (hls : ls.size = nL) (hK : kK G cy s) (hP : va_P G vwCl w H) (hD : va_D A w) (hS : va_S A H0 H locs) (hA : ∀ q, H0.size ≤ q → A q)
    (hdg : decode cc pc = .ok (.invokevirtual index, 3)) (isC isR : List Nat) (hC : isC.map (fun i => w[i]?) = wc.map some) (hR : isR.map (fun i => w[i]?) = wr.map some) (hok : lx_ok isC isR = true) (hroom : lx_room rm R maxL cells slots = true)
    (hn : As.length = n) (hst : st0 = As.reverse ++ .ref b :: rest) (hrest : (rest.map fun v => v.category).sum ≤ 8)
    {ci : Nat} {q : vw_C} {fs : List Value} (hcl : vwCl[ci]? = some q) (hq0 : wc[0]? = some (b, .inr (ci, fs))) (hqC : q.1 = C)
    (kk : ∀ (v : Option Value) (w1 : va_W) (H1 : Heap) (locs1 : List Loc), post v w1 → va_P G vwCl (wr ++ w1) H1 → va_D A (wr ++ w1) → va_S A H0 H1 locs1 → W p l e R s m args below meth c H1 locs1 (cells + rm.cells) (slots + rm.slots) Q (F0 m (pc + 3) ls (v.toList ++ rest))) : W p l e R s m args below meth c H locs cells slots Q (F0 m pc ls st0) := by
  obtain ⟨u0, u1, u2, u3, u4, hyx, hd⟩ := hm
  have hpre := kt_pre (av := .ref b :: As) (wc := wc) hK hP hD isC hC (lx_okc hok)
  have hrec : ∃ cell : Cell, H[b]? = some cell ∧ cell.vm.isStatics = false ∧ s.vm.findClass C = some cell.cls := by
    rw [← hqC]; exact va_recv hK.1 (hP.sub isC (lx_fm hC)) hcl hq0
  have hG : GoodIn UU (va_wsU own index C y.cls x y (Cond.code y bytes maxL ret :: UU)) := by
    intro v hv
    rcases List.mem_append.mp hv with h | h
    · have h2 : v ∈ UU := by
        rcases List.mem_cons.mp h with h | h
        · rw [h]; exact hl
        rcases List.mem_cons.mp h with h | h
        · rw [h]; exact u1
        rcases List.mem_cons.mp h with h | h
        · rw [h]; exact u2
        rcases List.mem_cons.mp h with h | h
        · rw [h]; exact u3
        rcases List.mem_cons.mp h with h | h
        · rw [h]; exact u4
        · cases h
      exact ⟨h2, good_of_word (uu_good h2)⟩
    · exact uu_gi u0 v h
  exact kt_go (va_runU (C := C) (As := As) (rest := rest) ⟨hx, hb, hml, hown, hU⟩ (hM H.size) (va_cwU n hU hG rfl rfl rfl hyx hd (lx_rooma hroom)) ⟨hpre.1, hrec, hpre.2⟩ rfl hn hls hst (lv_room hrest) hdg (lx_roomb hroom)) hP hD hS hA isC isR hC hR hok kk
theorem lx_lushr0 (z : UInt64) : ((0 : Int64).toUInt64 >>> z).toInt64 = 0 := by
  apply Int64.toBitVec_inj.mp
  simp
theorem lx_upL {k : Nat} {a : Int64} : vp_updL (fun _ => a) k a = (fun _ => a) := funext (fun j => by simp [vp_updL])
theorem lx_upI {k : Nat} {a : Int32} : upd (fun _ => a) k a = (fun _ => a) := funext (fun j => by simp [upd])
theorem lx_upq {f : Nat → Option Nat} {k : Nat} {v : Option Nat} : va_up f k v k = v := by simp [va_up]
theorem okW_in {k : Int32} (h : okWidth k) : vp_in k 7 := by
  obtain ⟨j, h1, h2⟩ := nI_of2 (x := k) (M := 6) (n := 6) rfl h.1 (lx_le h.2)
  rw [h2]
  exact vp_in_nI (by omega) (by decide)
theorem lx_m1bit : ∀ i, i < 64 → (((-1 : Int64).toUInt64 >>> ((nI i).toInt64.toUInt64 &&& Int64.toUInt64 63)).toInt64 &&& 1) = 1 := by decide +kernel
theorem sp_model_hit {k : Int32} {i : Nat} (hi : i < 64) (hk : ¬ k = (-1)) (h : nI i = k) : nI i = sp_model k := by
  subst h
  unfold sp_model
  rw [if_neg hk, if_neg (nI_pos (by omega)), if_pos (show nI i < 64 from (show nI i < nI 64 from nI_lt hi (by decide)))]
theorem sp_model_out {k : Int32} (hk : ¬ k = (-1)) (h : ∀ j, j < 64 → ¬ nI j = k) : (-1) = sp_model k := by
  unfold sp_model
  rw [if_neg hk]
  by_cases h0 : k < 0
  · rw [if_pos h0]
  · rw [if_neg h0]
    by_cases h1 : k < 64
    · exfalso
      obtain ⟨j, h2, h3⟩ := nI_of2 (x := k) (M := 64) (n := 64) rfl h0 (lx_le (fun q => lx_nlt (lx_le (lx_nlt (Int32.le_of_lt h1))) q))
      rcases Nat.lt_or_ge j 64 with q | q
      · exact h j q h3.symm
      · have e : j = 64 := by omega
        subst e
        rw [h3] at h1
        exact absurd h1 (by decide)
    · rw [if_neg h1]
