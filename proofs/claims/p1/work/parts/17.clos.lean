set_option maxHeartbeats 4000000 in
set_option maxRecDepth 100000 in
theorem c_X2_isThere (l : Launch) (G : va_G) (cy : Nat → ClassId) (h0 : Nat) (p0 : Int32) (p1 : Int32) (q0 : Int32) (b1 : Nat) (b2 : Nat) (e : Int32) (z : Int32) : Kt l G cy yX2_isThere cX2_isThere 3 (some .boolean) ({ frames := 10, cells := 0, slots := 0, locals := 200 } : Room) [.ref h0, .int p0, .int p1] [(h0, .inr (2, [.int q0, .ref b1, .ref b2, .int 0, .int 0, .int e, .int z])), (b1, .inl (cy 2, 64, .inr (.inl (fun _ => 0))))] (fun (v : Option Value) (w1 : va_W) => v = some (.int 0) ∧ w1 = []) := by
  refine kt_ofW (by decide) (Nat.le_of_ble_eq_true rfl) ?_
  intro p e s m below meth c A ls hx hb hr hU hown hlocks hml hin hP hK hD hA hS hl
  have hown : s.vm.findClass RX2 = some m.cls := hown
  have hl : lv_has ls 3 [(0, .ref h0), (1, .int p0), (2, .int p1)] := hl
  refine lv_aload_n hx hb dX2_isThere_0 rfl (lv_at hl 0 rfl) ?_
  refine va_get (D := G) (ci := 2) (v := .ref b1) (C := RX2) (T := TX2) (N := 7) hx hb hU in_X2 hown hK.1 hP 0 rfl rfl 1 (by decide) (hU _ u_339) (fun _ h9 => h9) rfl dX2_isThere_1 ?_
  refine lv_iload_n hx hb dX2_isThere_4 rfl (lv_at hl 1 rfl) ?_
  refine lv_bipush (v := 63) hx hb dX2_isThere_5 (by decide) ?_
  refine lv_iand hx hb dX2_isThere_7 ?_
  refine va_lald hx hb hK.1 hP 1 2 rfl rfl (pk_andIn _ 6 (by decide) (by decide)) dX2_isThere_8 (lx_topl (y := 0) rfl ?_)
  refine lv_iload_n hx hb dX2_isThere_9 rfl (lv_at hl 2 rfl) ?_
  refine lv_lushr (v := 0) hx hb dX2_isThere_10 (lx_lushr0 _) ?_
  refine lv_lconst (v := 1) hx hb dX2_isThere_11 (by decide) ?_
  refine lv_land hx hb dX2_isThere_12 (lx_topl (y := 0) (by decide +kernel) ?_)
  refine lv_lconst (v := 0) hx hb dX2_isThere_13 (by decide) ?_
  refine W.lcmp hx hb dX2_isThere_14 (lx_top (y := 0) (by decide +kernel) ?_)
  refine lv_if_eq (tgt := 22) hx hb dX2_isThere_15 (by decide) (fun _ => ?_) (fun c9 => absurd (by decide) c9)
  refine lv_iconst (v := 0) hx hb dX2_isThere_22 (by decide) ?_
  exact kt_zret hx hb hr hlocks hP hD hS (by first | rfl | decide | exact rfl) dX2_isThere_23 [] rfl rfl rfl rfl ⟨rfl, rfl⟩
set_option maxHeartbeats 4000000 in
set_option maxRecDepth 100000 in
theorem c_X2_goRounds (l : Launch) (G : va_G) (cy : Nat → ClassId) (h0 : Nat) (p0 : Int32) (b1 : Nat) (b2 : Nat) : Kt l G cy yX2_goRounds cX2_goRounds 7 none ({ frames := 10, cells := 0, slots := 0, locals := 200 } : Room) [.ref h0] [(h0, .inr (2, [.int p0, .ref b1, .ref b2, .int 0, .int 0, .int (-1), .int 0]))] (fun (v : Option Value) (w1 : va_W) => v = none ∧ w1 = [(h0, .inr (2, [.int p0, .ref b1, .ref b2, .int 0, .int 0, .int (-1), .int 0]))]) := by
  refine kt_ofW (by decide) (Nat.le_of_ble_eq_true rfl) ?_
  intro p e s m below meth c A ls hx hb hr hU hown hlocks hml hin hP hK hD hA hS hl
  have hown : s.vm.findClass RX2 = some m.cls := hown
  have hl : lv_has ls 7 [(0, .ref h0)] := hl
  refine lv_iconst (v := 0) hx hb dX2_goRounds_0 (by decide) ?_
  refine lv_istore_n (lv' := [(1, .int 0), (0, .ref h0)]) hx hb dX2_goRounds_1 rfl hl (by decide) rfl (fun ls hl => ?_)
  refine lv_iconst (v := 1) hx hb dX2_goRounds_2 (by decide) ?_
  refine lv_istore_n (lv' := [(2, .int 1), (1, .int 0), (0, .ref h0)]) hx hb dX2_goRounds_3 rfl hl (by decide) rfl (fun ls hl => ?_)
  refine lv_iload_n hx hb dX2_goRounds_4 rfl (lv_at hl 0 rfl) ?_
  refine lv_sipush (v := 729) hx hb dX2_goRounds_5 (by decide) ?_
  refine lv_icmp_gt (tgt := 146) hx hb dX2_goRounds_8 (by decide) (fun c9 => absurd c9 (by decide)) (fun _ => ?_)
  refine lv_aload_n hx hb dX2_goRounds_11 rfl (lv_at hl 2 rfl) ?_
  refine va_get (D := G) (ci := 2) (v := .int 0) (C := RX2) (T := TX2) (N := 7) hx hb hU in_X2 hown hK.1 hP 0 rfl rfl 3 (by decide) (hU _ u_341) (fun _ h9 => h9) rfl dX2_goRounds_12 ?_
  refine lv_istore_n (lv' := [(3, .int 0), (2, .int 1), (1, .int 0), (0, .ref h0)]) hx hb dX2_goRounds_15 rfl hl (by decide) rfl (fun ls hl => ?_)
  refine lv_iload_n hx hb dX2_goRounds_16 rfl (lv_at hl 2 rfl) ?_
  refine lv_istore (lv' := [(4, .int 0), (3, .int 0), (2, .int 1), (1, .int 0), (0, .ref h0)]) hx hb dX2_goRounds_17 hl (by decide) rfl (fun ls hl => ?_)
  refine lv_iload hx hb dX2_goRounds_19 (lv_at hl 0 rfl) ?_
  refine lv_iload_n hx hb dX2_goRounds_21 rfl (lv_at hl 1 rfl) ?_
  refine lv_icmp_ge (tgt := 102) hx hb dX2_goRounds_22 (by decide) (fun _ => ?_) (fun c9 => absurd (by decide) c9)
  refine lv_aload_n hx hb dX2_goRounds_102 rfl (lv_at hl 4 rfl) ?_
  refine va_get (D := G) (ci := 2) (v := .int 0) (C := RX2) (T := TX2) (N := 7) hx hb hU in_X2 hown hK.1 hP 0 rfl rfl 3 (by decide) (hU _ u_341) (fun _ h9 => h9) rfl dX2_goRounds_103 ?_
  refine lv_iload_n hx hb dX2_goRounds_106 rfl (lv_at hl 1 rfl) ?_
  refine lv_icmp_ne (tgt := 111) hx hb dX2_goRounds_107 (by decide) (fun c9 => absurd (by decide) c9) (fun _ => ?_)
  exact kt_vret hx hb hr hlocks hP hD hS dX2_goRounds_110 [0] rfl rfl rfl rfl ⟨rfl, rfl⟩
set_option maxHeartbeats 4000000 in
set_option maxRecDepth 100000 in
theorem c_X2_build (l : Launch) (G : va_G) (cy : Nat → ClassId) (h0 : Nat) (p0 : Int32) (b1 : Nat) (b2 : Nat) (r2 : Nat) (r3 : Nat) : Kt l G cy yX2_build cX2_build 4 none ({ frames := 12, cells := 0, slots := 0, locals := 300 } : Room) [.ref h0, .ref r2] [(h0, .inr (2, [.int p0, .ref b1, .ref b2, .int 0, .int 0, .int 0, .int 0])), (b1, .inl (cy 2, 64, .inr (.inl (fun _ => 0)))), (r2, .inr (0, [.ref r3, .int 0, .int 0]))] (fun (v : Option Value) (w1 : va_W) => v = none ∧ w1 = [(h0, .inr (2, [.int p0, .ref b1, .ref b2, .int 0, .int 0, .int (-1), .int 1])), (b1, .inl (cy 2, 64, .inr (.inl (fun _ => 0)))), (r2, .inr (0, [.ref r3, .int 0, .int 0]))]) := by
  refine kt_ofW (by decide) (Nat.le_of_ble_eq_true rfl) ?_
  intro p e s m below meth c A ls hx hb hr hU hown hlocks hml hin hP hK hD hA hS hl
  have hown : s.vm.findClass RX2 = some m.cls := hown
  have hl : lv_has ls 4 [(0, .ref h0), (1, .ref r2)] := hl
  refine lv_aload_n hx hb dX2_build_0 rfl (lv_at hl 0 rfl) ?_
  refine va_get (D := G) (ci := 2) (v := .ref b1) (C := RX2) (T := TX2) (N := 7) hx hb hU in_X2 hown hK.1 hP 0 rfl rfl 1 (by decide) (hU _ u_339) (fun _ h9 => h9) rfl dX2_build_1 ?_
  refine lv_lconst (v := 0) hx hb dX2_build_4 (by decide) ?_
  refine kt_callS (wc := [(b1, .inl (cy 2, 64, .inr (.inl (fun _ => 0))))]) (wr := [(h0, .inr (2, [.int p0, .ref b1, .ref b2, .int 0, .int 0, .int 0, .int 0])), (r2, .inr (0, [.ref r3, .int 0, .int 0]))]) (As := [.ref b1, .long 0]) (rest := []) (c_J7_fill_d0a16 l G cy b1) m_J7_fill_d0a16 u_369 hx hb hml hown hU hl.1 hK hP hD hS hA dX2_build_5 [1] [0, 2] rfl rfl rfl rfl rfl rfl (Nat.le_of_ble_eq_true rfl) (fun v9 w9 H locs hw hP hD hS => ?_)
  obtain ⟨rfl, rfl⟩ := hw
  have hP : va_P G vwCl [(h0, .inr (2, [.int p0, .ref b1, .ref b2, .int 0, .int 0, .int 0, .int 0])), (r2, .inr (0, [.ref r3, .int 0, .int 0])), (b1, .inl (cy 2, 64, .inr (.inl (fun _ => 0))))] H := hP
  have hD : va_D A [(h0, .inr (2, [.int p0, .ref b1, .ref b2, .int 0, .int 0, .int 0, .int 0])), (r2, .inr (0, [.ref r3, .int 0, .int 0])), (b1, .inl (cy 2, 64, .inr (.inl (fun _ => 0))))] := hD
  refine W.eq (g2 := F0 m 8 ls []) rfl ?_
  refine W.widen (k := 0) (n := 0) (Nat.le_of_ble_eq_true rfl) (Nat.le_of_ble_eq_true rfl) ?_
  refine lv_aload_n hx hb dX2_build_8 rfl (lv_at hl 0 rfl) ?_
  refine lv_iconst (v := 0) hx hb dX2_build_9 (by decide) ?_
  refine va_put (D := G) (ci := 2) (v := .int 0) (ty := .int) (C := RX2) (T := TX2) (N := 7) hx hb hU in_X2 tyX2 tyX2_ok nmX2 hown hK.1 hP hD hS 0 rfl rfl 3 (by decide) (hU _ u_341) (fun _ h9 => h9) rfl (by decide +kernel) rfl rfl (Nat.le_of_ble_eq_true rfl) dX2_build_10 (fun H locs hP hD hS => ?_)
  have hP : va_P G vwCl [(h0, .inr (2, [.int p0, .ref b1, .ref b2, .int 0, .int 0, .int 0, .int 0])), (r2, .inr (0, [.ref r3, .int 0, .int 0])), (b1, .inl (cy 2, 64, .inr (.inl (fun _ => 0))))] H := hP
  have hD : va_D A [(h0, .inr (2, [.int p0, .ref b1, .ref b2, .int 0, .int 0, .int 0, .int 0])), (r2, .inr (0, [.ref r3, .int 0, .int 0])), (b1, .inl (cy 2, 64, .inr (.inl (fun _ => 0))))] := hD
  refine lv_aload_n hx hb dX2_build_13 rfl (lv_at hl 0 rfl) ?_
  refine lv_iconst (v := 0) hx hb dX2_build_14 (by decide) ?_
  refine va_put (D := G) (ci := 2) (v := .int 0) (ty := .int) (C := RX2) (T := TX2) (N := 7) hx hb hU in_X2 tyX2 tyX2_ok nmX2 hown hK.1 hP hD hS 0 rfl rfl 4 (by decide) (hU _ u_343) (fun _ h9 => h9) rfl (by decide +kernel) rfl rfl (Nat.le_of_ble_eq_true rfl) dX2_build_15 (fun H locs hP hD hS => ?_)
  have hP : va_P G vwCl [(h0, .inr (2, [.int p0, .ref b1, .ref b2, .int 0, .int 0, .int 0, .int 0])), (r2, .inr (0, [.ref r3, .int 0, .int 0])), (b1, .inl (cy 2, 64, .inr (.inl (fun _ => 0))))] H := hP
  have hD : va_D A [(h0, .inr (2, [.int p0, .ref b1, .ref b2, .int 0, .int 0, .int 0, .int 0])), (r2, .inr (0, [.ref r3, .int 0, .int 0])), (b1, .inl (cy 2, 64, .inr (.inl (fun _ => 0))))] := hD
  refine lv_aload_n hx hb dX2_build_18 rfl (lv_at hl 0 rfl) ?_
  refine lv_iconst (v := (-1)) hx hb dX2_build_19 (by decide) ?_
  refine va_put (D := G) (ci := 2) (v := .int (-1)) (ty := .int) (C := RX2) (T := TX2) (N := 7) hx hb hU in_X2 tyX2 tyX2_ok nmX2 hown hK.1 hP hD hS 0 rfl rfl 5 (by decide) (hU _ u_345) (fun _ h9 => h9) rfl (by decide +kernel) rfl rfl (Nat.le_of_ble_eq_true rfl) dX2_build_20 (fun H locs hP hD hS => ?_)
  have hP : va_P G vwCl [(h0, .inr (2, [.int p0, .ref b1, .ref b2, .int 0, .int 0, .int (-1), .int 0])), (r2, .inr (0, [.ref r3, .int 0, .int 0])), (b1, .inl (cy 2, 64, .inr (.inl (fun _ => 0))))] H := hP
  have hD : va_D A [(h0, .inr (2, [.int p0, .ref b1, .ref b2, .int 0, .int 0, .int (-1), .int 0])), (r2, .inr (0, [.ref r3, .int 0, .int 0])), (b1, .inl (cy 2, 64, .inr (.inl (fun _ => 0))))] := hD
  refine lv_iconst (v := 0) hx hb dX2_build_23 (by decide) ?_
  refine lv_istore_n (lv' := [(2, .int 0), (0, .ref h0), (1, .ref r2)]) hx hb dX2_build_24 rfl hl (by decide) rfl (fun ls hl => ?_)
  refine lv_iload_n hx hb dX2_build_25 rfl (lv_at hl 0 rfl) ?_
  refine lv_aload_n hx hb dX2_build_26 rfl (lv_at hl 2 rfl) ?_
  refine va_get (D := G) (ci := 0) (v := .int 0) (C := RX0) (T := TX0) (N := 3) hx hb hU in_X0 hown hK.1 hP 1 rfl rfl 1 (by decide) (hU _ u_177) (fun _ h9 => h9) rfl dX2_build_27 ?_
  refine lv_icmp_ge (tgt := 67) hx hb dX2_build_30 (by decide) (fun _ => ?_) (fun c9 => absurd (by decide) c9)
  refine lv_aload_n hx hb dX2_build_67 rfl (lv_at hl 1 rfl) ?_
  refine kt_callV (wc := [(h0, .inr (2, [.int p0, .ref b1, .ref b2, .int 0, .int 0, .int (-1), .int 0]))]) (wr := [(r2, .inr (0, [.ref r3, .int 0, .int 0])), (b1, .inl (cy 2, 64, .inr (.inl (fun _ => 0))))]) (As := []) (rest := []) (c_X2_goRounds l G cy h0 p0 b1 b2) m_X2_goRounds u_381 hx hb hml hown hU hl.1 hK hP hD hS hA dX2_build_68 [0] [1, 2] rfl rfl rfl rfl rfl rfl (Nat.le_of_ble_eq_true rfl) (ci := 2) rfl rfl rfl (fun v9 w9 H locs hw hP hD hS => ?_)
  obtain ⟨rfl, rfl⟩ := hw
  have hP : va_P G vwCl [(r2, .inr (0, [.ref r3, .int 0, .int 0])), (b1, .inl (cy 2, 64, .inr (.inl (fun _ => 0)))), (h0, .inr (2, [.int p0, .ref b1, .ref b2, .int 0, .int 0, .int (-1), .int 0]))] H := hP
  have hD : va_D A [(r2, .inr (0, [.ref r3, .int 0, .int 0])), (b1, .inl (cy 2, 64, .inr (.inl (fun _ => 0)))), (h0, .inr (2, [.int p0, .ref b1, .ref b2, .int 0, .int 0, .int (-1), .int 0]))] := hD
  refine W.eq (g2 := F0 m 71 ls []) rfl ?_
  refine W.widen (k := 0) (n := 0) (Nat.le_of_ble_eq_true rfl) (Nat.le_of_ble_eq_true rfl) ?_
  refine lv_aload_n hx hb dX2_build_71 rfl (lv_at hl 1 rfl) ?_
  refine lv_iconst (v := 1) hx hb dX2_build_72 (by decide) ?_
  refine va_put (D := G) (ci := 2) (v := .int 1) (ty := .boolean) (C := RX2) (T := TX2) (N := 7) hx hb hU in_X2 tyX2 tyX2_ok nmX2 hown hK.1 hP hD hS 2 rfl rfl 6 (by decide) (hU _ u_347) (fun _ h9 => h9) rfl (by decide +kernel) rfl rfl (Nat.le_of_ble_eq_true rfl) dX2_build_73 (fun H locs hP hD hS => ?_)
  have hP : va_P G vwCl [(r2, .inr (0, [.ref r3, .int 0, .int 0])), (b1, .inl (cy 2, 64, .inr (.inl (fun _ => 0)))), (h0, .inr (2, [.int p0, .ref b1, .ref b2, .int 0, .int 0, .int (-1), .int 1]))] H := hP
  have hD : va_D A [(r2, .inr (0, [.ref r3, .int 0, .int 0])), (b1, .inl (cy 2, 64, .inr (.inl (fun _ => 0)))), (h0, .inr (2, [.int p0, .ref b1, .ref b2, .int 0, .int 0, .int (-1), .int 1]))] := hD
  exact kt_vret hx hb hr hlocks hP hD hS dX2_build_76 [2, 1, 0] rfl rfl rfl rfl ⟨rfl, rfl⟩
set_option maxHeartbeats 4000000 in
set_option maxRecDepth 100000 in
theorem c_X11_closureOf (l : Launch) (G : va_G) (cy : Nat → ClassId) (h0 : Nat) (r1 : Nat) (r2 : Nat) (r4 : Nat) (r6 : Nat) (r7 : Nat) (r9 : Nat) (r3 : Nat) (cf : Nat → Option Nat) (p0 : Int32) (hw : vp_in p0 7) (hcf : cf p0.toNatClampNeg = none) : Kt l G cy yX11_closureOf cX11_closureOf 2 (some (.object "PlaneProof$Closure")) ({ frames := 14, cells := 3, slots := 800, locals := 400 } : Room) [.ref h0, .int p0] [(h0, .inr (10, [.ref r1, .int 0, .int (-1), .ref r2, .ref r4, .ref r6, .int (-2), .ref r7, .ref r9])), (r2, .inr (0, [.ref r3, .int 0, .int 0])), (r6, .inl (cy 5, 7, .inr (.inr (.inr (.inr cf)))))] (fun (v : Option Value) (w1 : va_W) => ∃ (q : Nat), ∃ (b1 : Nat), ∃ (b2 : Nat), v = some (.ref q) ∧ w1 = [(h0, .inr (10, [.ref r1, .int 0, .int (-1), .ref r2, .ref r4, .ref r6, .int (-2), .ref r7, .ref r9])), (r2, .inr (0, [.ref r3, .int 0, .int 0])), (r6, .inl (cy 5, 7, .inr (.inr (.inr (.inr (va_up cf (p0 : Int32).toNatClampNeg (some q))))))), (q, .inr (2, [.int p0, .ref b1, .ref b2, .int 0, .int 0, .int (-1), .int 1])), (b1, .inl (cy 2, 64, .inr (.inl (fun _ => 0)))), (b2, .inl (cy 1, 729, .inl (fun _ => 0)))]) := by
  refine kt_ofW (by decide) (Nat.le_of_ble_eq_true rfl) ?_
  intro p e s m below meth c A ls hx hb hr hU hown hlocks hml hin hP hK hD hA hS hl
  have hown : s.vm.findClass RX11 = some m.cls := hown
  have hl : lv_has ls 2 [(0, .ref h0), (1, .int p0)] := hl
  refine lv_aload_n hx hb dX11_closureOf_0 rfl (lv_at hl 0 rfl) ?_
  refine va_get (D := G) (ci := 10) (v := .ref r6) (C := RX11) (T := TX11) (N := 9) hx hb hU in_X11 hown hK.1 hP 0 rfl rfl 5 (by decide) (hU _ u_255) (fun _ h9 => h9) rfl dX11_closureOf_1 ?_
  refine lv_iload_n hx hb dX11_closureOf_4 rfl (lv_at hl 1 rfl) ?_
  refine va_aldq hx hb hK.1 hP 2 5 rfl rfl hw dX11_closureOf_5 ?_
  refine W.eq (g2 := F0 m 6 ls [.null]) (by rw [hcf]; rfl) ?_
  refine lv_ifnonnullN hx hb dX11_closureOf_6 ?_
  refine lv_aload_n hx hb dX11_closureOf_9 rfl (lv_at hl 0 rfl) ?_
  refine va_get (D := G) (ci := 10) (v := .ref r6) (C := RX11) (T := TX11) (N := 9) hx hb hU in_X11 hown hK.1 hP 0 rfl rfl 5 (by decide) (hU _ u_255) (fun _ h9 => h9) rfl dX11_closureOf_10 ?_
  refine lv_iload_n hx hb dX11_closureOf_13 rfl (lv_at hl 1 rfl) ?_
  refine va_new (ci := 2) (fs := [.int 0, .null, .null, .int 0, .int 0, .int 0, .int 0]) (C := RX2) (T := TX2) (N := 7) hx hb hU in_X2 tyX2 tyX2_ok hown (hU _ u_215) (hU _ u_333) (hU _ u_148) hK.1 hP hD hS hA rfl df_X2 (Nat.le_of_ble_eq_true rfl) (Nat.le_of_ble_eq_true rfl) dX11_closureOf_14 (fun q_1 H hP hD hS => ?_)
  have hP : va_P G vwCl [(h0, .inr (10, [.ref r1, .int 0, .int (-1), .ref r2, .ref r4, .ref r6, .int (-2), .ref r7, .ref r9])), (r2, .inr (0, [.ref r3, .int 0, .int 0])), (r6, .inl (cy 5, 7, .inr (.inr (.inr (.inr cf))))), (q_1, .inr (2, [.int 0, .null, .null, .int 0, .int 0, .int 0, .int 0]))] H := hP
  have hD : va_D A [(h0, .inr (10, [.ref r1, .int 0, .int (-1), .ref r2, .ref r4, .ref r6, .int (-2), .ref r7, .ref r9])), (r2, .inr (0, [.ref r3, .int 0, .int 0])), (r6, .inl (cy 5, 7, .inr (.inr (.inr (.inr cf))))), (q_1, .inr (2, [.int 0, .null, .null, .int 0, .int 0, .int 0, .int 0]))] := hD
  refine W.widen (k := 1) (n := 7) (Nat.le_of_ble_eq_true rfl) (Nat.le_of_ble_eq_true rfl) ?_
  refine lv_dup hx hb dX11_closureOf_17 rfl ?_
  refine lv_iload_n hx hb dX11_closureOf_18 rfl (lv_at hl 1 rfl) ?_
  refine kt_callI (wc := [(q_1, .inr (2, [.int 0, .null, .null, .int 0, .int 0, .int 0, .int 0]))]) (wr := [(h0, .inr (10, [.ref r1, .int 0, .int (-1), .ref r2, .ref r4, .ref r6, .int (-2), .ref r7, .ref r9])), (r2, .inr (0, [.ref r3, .int 0, .int 0])), (r6, .inl (cy 5, 7, .inr (.inr (.inr (.inr cf)))))]) (As := [.int p0]) (rest := [.ref q_1, .int p0, .ref r6]) (c_X2_init l G cy q_1 p0) m_X2_init u_334 hx hb hml hown hU hl.1 hK hP hD hS hA dX11_closureOf_19 [3] [0, 1, 2] rfl rfl rfl rfl rfl rfl (Nat.le_of_ble_eq_true rfl) (fun v9 w9 H locs hw hP hD hS => ?_)
  obtain ⟨x_2, x_3, rfl, rfl⟩ := hw
  have hP : va_P G vwCl [(h0, .inr (10, [.ref r1, .int 0, .int (-1), .ref r2, .ref r4, .ref r6, .int (-2), .ref r7, .ref r9])), (r2, .inr (0, [.ref r3, .int 0, .int 0])), (r6, .inl (cy 5, 7, .inr (.inr (.inr (.inr cf))))), (q_1, .inr (2, [.int p0, .ref x_2, .ref x_3, .int 0, .int 0, .int 0, .int 0])), (x_2, .inl (cy 2, 64, .inr (.inl (fun _ => 0)))), (x_3, .inl (cy 1, 729, .inl (fun _ => 0)))] H := hP
  have hD : va_D A [(h0, .inr (10, [.ref r1, .int 0, .int (-1), .ref r2, .ref r4, .ref r6, .int (-2), .ref r7, .ref r9])), (r2, .inr (0, [.ref r3, .int 0, .int 0])), (r6, .inl (cy 5, 7, .inr (.inr (.inr (.inr cf))))), (q_1, .inr (2, [.int p0, .ref x_2, .ref x_3, .int 0, .int 0, .int 0, .int 0])), (x_2, .inl (cy 2, 64, .inr (.inl (fun _ => 0)))), (x_3, .inl (cy 1, 729, .inl (fun _ => 0)))] := hD
  refine W.eq (g2 := F0 m 22 ls [.ref q_1, .int p0, .ref r6]) rfl ?_
  refine W.widen (k := 3) (n := 800) (Nat.le_of_ble_eq_true rfl) (Nat.le_of_ble_eq_true rfl) ?_
  refine va_astq (r := (RX2, TX2, 7)) hx hb hK.1 hP hD hS 2 5 3 2 rfl rfl rfl rfl hw dX11_closureOf_22 (fun H locs hP hD hS => ?_)
  have hP : va_P G vwCl [(h0, .inr (10, [.ref r1, .int 0, .int (-1), .ref r2, .ref r4, .ref r6, .int (-2), .ref r7, .ref r9])), (r2, .inr (0, [.ref r3, .int 0, .int 0])), (r6, .inl (cy 5, 7, .inr (.inr (.inr (.inr (va_up cf (p0 : Int32).toNatClampNeg (some q_1))))))), (q_1, .inr (2, [.int p0, .ref x_2, .ref x_3, .int 0, .int 0, .int 0, .int 0])), (x_2, .inl (cy 2, 64, .inr (.inl (fun _ => 0)))), (x_3, .inl (cy 1, 729, .inl (fun _ => 0)))] H := hP
  have hD : va_D A [(h0, .inr (10, [.ref r1, .int 0, .int (-1), .ref r2, .ref r4, .ref r6, .int (-2), .ref r7, .ref r9])), (r2, .inr (0, [.ref r3, .int 0, .int 0])), (r6, .inl (cy 5, 7, .inr (.inr (.inr (.inr (va_up cf (p0 : Int32).toNatClampNeg (some q_1))))))), (q_1, .inr (2, [.int p0, .ref x_2, .ref x_3, .int 0, .int 0, .int 0, .int 0])), (x_2, .inl (cy 2, 64, .inr (.inl (fun _ => 0)))), (x_3, .inl (cy 1, 729, .inl (fun _ => 0)))] := hD
  refine lv_aload_n hx hb dX11_closureOf_23 rfl (lv_at hl 0 rfl) ?_
  refine va_get (D := G) (ci := 10) (v := .ref r6) (C := RX11) (T := TX11) (N := 9) hx hb hU in_X11 hown hK.1 hP 0 rfl rfl 5 (by decide) (hU _ u_255) (fun _ h9 => h9) rfl dX11_closureOf_24 ?_
  refine lv_iload_n hx hb dX11_closureOf_27 rfl (lv_at hl 1 rfl) ?_
  refine va_aldq hx hb hK.1 hP 2 5 rfl rfl hw dX11_closureOf_28 ?_
  refine W.eq (g2 := F0 m 29 ls [.ref q_1]) (by rw [lx_upq]; rfl) ?_
  refine va_get (D := G) (ci := 2) (v := .int 0) (C := RX2) (T := TX2) (N := 7) hx hb hU in_X2 hown hK.1 hP 3 rfl rfl 6 (by decide) (hU _ u_348) (fun _ h9 => h9) rfl dX11_closureOf_29 ?_
  refine lv_if_ne (tgt := 48) hx hb dX11_closureOf_32 (by decide) (fun c9 => absurd (by decide) c9) (fun _ => ?_)
  refine lv_aload_n hx hb dX11_closureOf_35 rfl (lv_at hl 0 rfl) ?_
  refine va_get (D := G) (ci := 10) (v := .ref r6) (C := RX11) (T := TX11) (N := 9) hx hb hU in_X11 hown hK.1 hP 0 rfl rfl 5 (by decide) (hU _ u_255) (fun _ h9 => h9) rfl dX11_closureOf_36 ?_
  refine lv_iload_n hx hb dX11_closureOf_39 rfl (lv_at hl 1 rfl) ?_
  refine va_aldq hx hb hK.1 hP 2 5 rfl rfl hw dX11_closureOf_40 ?_
  refine W.eq (g2 := F0 m 41 ls [.ref q_1]) (by rw [lx_upq]; rfl) ?_
  refine lv_aload_n hx hb dX11_closureOf_41 rfl (lv_at hl 0 rfl) ?_
  refine va_get (D := G) (ci := 10) (v := .ref r2) (C := RX11) (T := TX11) (N := 9) hx hb hU in_X11 hown hK.1 hP 0 rfl rfl 3 (by decide) (hU _ u_253) (fun _ h9 => h9) rfl dX11_closureOf_42 ?_
  refine kt_callV (wc := [(q_1, .inr (2, [.int p0, .ref x_2, .ref x_3, .int 0, .int 0, .int 0, .int 0])), (x_2, .inl (cy 2, 64, .inr (.inl (fun _ => 0)))), (r2, .inr (0, [.ref r3, .int 0, .int 0]))]) (wr := [(h0, .inr (10, [.ref r1, .int 0, .int (-1), .ref r2, .ref r4, .ref r6, .int (-2), .ref r7, .ref r9])), (r6, .inl (cy 5, 7, .inr (.inr (.inr (.inr (va_up cf (p0 : Int32).toNatClampNeg (some q_1))))))), (x_3, .inl (cy 1, 729, .inl (fun _ => 0)))]) (As := [.ref r2]) (rest := []) (c_X2_build l G cy q_1 p0 x_2 x_3 r2 r3) m_X2_build u_365 hx hb hml hown hU hl.1 hK hP hD hS hA dX11_closureOf_45 [3, 4, 1] [0, 2, 5] rfl rfl rfl rfl rfl rfl (Nat.le_of_ble_eq_true rfl) (ci := 2) rfl rfl rfl (fun v9 w9 H locs hw hP hD hS => ?_)
  obtain ⟨rfl, rfl⟩ := hw
  have hP : va_P G vwCl [(h0, .inr (10, [.ref r1, .int 0, .int (-1), .ref r2, .ref r4, .ref r6, .int (-2), .ref r7, .ref r9])), (r6, .inl (cy 5, 7, .inr (.inr (.inr (.inr (va_up cf (p0 : Int32).toNatClampNeg (some q_1))))))), (x_3, .inl (cy 1, 729, .inl (fun _ => 0))), (q_1, .inr (2, [.int p0, .ref x_2, .ref x_3, .int 0, .int 0, .int (-1), .int 1])), (x_2, .inl (cy 2, 64, .inr (.inl (fun _ => 0)))), (r2, .inr (0, [.ref r3, .int 0, .int 0]))] H := hP
  have hD : va_D A [(h0, .inr (10, [.ref r1, .int 0, .int (-1), .ref r2, .ref r4, .ref r6, .int (-2), .ref r7, .ref r9])), (r6, .inl (cy 5, 7, .inr (.inr (.inr (.inr (va_up cf (p0 : Int32).toNatClampNeg (some q_1))))))), (x_3, .inl (cy 1, 729, .inl (fun _ => 0))), (q_1, .inr (2, [.int p0, .ref x_2, .ref x_3, .int 0, .int 0, .int (-1), .int 1])), (x_2, .inl (cy 2, 64, .inr (.inl (fun _ => 0)))), (r2, .inr (0, [.ref r3, .int 0, .int 0]))] := hD
  refine W.eq (g2 := F0 m 48 ls []) rfl ?_
  refine W.widen (k := 3) (n := 800) (Nat.le_of_ble_eq_true rfl) (Nat.le_of_ble_eq_true rfl) ?_
  refine lv_aload_n hx hb dX11_closureOf_48 rfl (lv_at hl 0 rfl) ?_
  refine va_get (D := G) (ci := 10) (v := .ref r6) (C := RX11) (T := TX11) (N := 9) hx hb hU in_X11 hown hK.1 hP 0 rfl rfl 5 (by decide) (hU _ u_255) (fun _ h9 => h9) rfl dX11_closureOf_49 ?_
  refine lv_iload_n hx hb dX11_closureOf_52 rfl (lv_at hl 1 rfl) ?_
  refine va_aldq hx hb hK.1 hP 1 5 rfl rfl hw dX11_closureOf_53 ?_
  refine W.eq (g2 := F0 m 54 ls [.ref q_1]) (by rw [lx_upq]; rfl) ?_
  exact kt_aret hx hb hr hlocks hP hD hS dX11_closureOf_54 [0, 5, 1, 3, 4, 2] rfl rfl rfl rfl ⟨q_1, x_2, x_3, rfl, rfl⟩
