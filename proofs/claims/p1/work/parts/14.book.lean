set_option maxHeartbeats 4000000 in
set_option maxRecDepth 100000 in
theorem c_X0_modelsWithout (l : Launch) (G : va_G) (cy : Nat → ClassId) (r2 : Nat) (r3 : Nat) (p0 : Int32) : Kt l G cy yX0_modelsWithout cX0_modelsWithout 5 (some .long) ({ frames := 10, cells := 0, slots := 0, locals := 200 } : Room) [.ref r2, .int p0] [(r2, .inr (0, [.ref r3, .int 0, .int 0]))] (fun (v : Option Value) (w1 : va_W) => v = some (.long (-1)) ∧ w1 = [(r2, .inr (0, [.ref r3, .int 0, .int 0]))]) := by
  refine kt_ofW (by decide) (Nat.le_of_ble_eq_true rfl) ?_
  intro p e s m below meth c A ls hx hb hr hU hown hlocks hml hin hP hK hD hA hS hl
  have hown : s.vm.findClass RX0 = some m.cls := hown
  have hl : lv_has ls 5 [(0, .ref r2), (1, .int p0)] := hl
  refine lv_ldc2 hx hb hown (hU _ u_302) dX0_modelsWithout_0 ?_
  refine lv_lstore_n (lv' := [(2, .long (-1)), (0, .ref r2), (1, .int p0)]) hx hb dX0_modelsWithout_3 rfl hl (by decide) rfl (fun ls hl => ?_)
  refine lv_iconst (v := 0) hx hb dX0_modelsWithout_4 (by decide) ?_
  refine lv_istore (lv' := [(4, .int 0), (2, .long (-1)), (0, .ref r2), (1, .int p0)]) hx hb dX0_modelsWithout_5 hl (by decide) rfl (fun ls hl => ?_)
  refine lv_iload hx hb dX0_modelsWithout_7 (lv_at hl 0 rfl) ?_
  refine lv_aload_n hx hb dX0_modelsWithout_9 rfl (lv_at hl 2 rfl) ?_
  refine va_get (D := G) (ci := 0) (v := .int 0) (C := RX0) (T := TX0) (N := 3) hx hb hU in_X0 hown hK.1 hP 0 rfl rfl 1 (by decide) (hU _ u_174) (fun _ h9 => h9) rfl dX0_modelsWithout_10 ?_
  refine lv_icmp_ge (tgt := 41) hx hb dX0_modelsWithout_13 (by decide) (fun _ => ?_) (fun c9 => absurd (by decide) c9)
  refine lv_lload_n hx hb dX0_modelsWithout_41 rfl (lv_at hl 1 rfl) ?_
  exact kt_lret hx hb hr hlocks hP hD hS dX0_modelsWithout_42 [0] rfl rfl rfl rfl ⟨rfl, rfl⟩
set_option maxHeartbeats 4000000 in
set_option maxRecDepth 100000 in
theorem c_X0_planeCount (l : Launch) (G : va_G) (cy : Nat → ClassId) (r2 : Nat) (r3 : Nat) : Kt l G cy yX0_planeCount cX0_planeCount 3 (some .int) ({ frames := 10, cells := 0, slots := 0, locals := 200 } : Room) [.ref r2] [(r2, .inr (0, [.ref r3, .int 0, .int 0]))] (fun (v : Option Value) (w1 : va_W) => v = some (.int 0) ∧ w1 = [(r2, .inr (0, [.ref r3, .int 0, .int 0]))]) := by
  refine kt_ofW (by decide) (Nat.le_of_ble_eq_true rfl) ?_
  intro p e s m below meth c A ls hx hb hr hU hown hlocks hml hin hP hK hD hA hS hl
  have hown : s.vm.findClass RX0 = some m.cls := hown
  have hl : lv_has ls 3 [(0, .ref r2)] := hl
  refine lv_iconst (v := 0) hx hb dX0_planeCount_0 (by decide) ?_
  refine lv_istore_n (lv' := [(1, .int 0), (0, .ref r2)]) hx hb dX0_planeCount_1 rfl hl (by decide) rfl (fun ls hl => ?_)
  refine lv_iconst (v := 0) hx hb dX0_planeCount_2 (by decide) ?_
  refine lv_istore_n (lv' := [(2, .int 0), (1, .int 0), (0, .ref r2)]) hx hb dX0_planeCount_3 rfl hl (by decide) rfl (fun ls hl => ?_)
  refine lv_iload_n hx hb dX0_planeCount_4 rfl (lv_at hl 0 rfl) ?_
  refine lv_aload_n hx hb dX0_planeCount_5 rfl (lv_at hl 2 rfl) ?_
  refine va_get (D := G) (ci := 0) (v := .int 0) (C := RX0) (T := TX0) (N := 3) hx hb hU in_X0 hown hK.1 hP 0 rfl rfl 2 (by decide) (hU _ u_179) (fun _ h9 => h9) rfl dX0_planeCount_6 ?_
  refine lv_icmp_ge (tgt := 33) hx hb dX0_planeCount_9 (by decide) (fun _ => ?_) (fun c9 => absurd (by decide) c9)
  refine lv_iload_n hx hb dX0_planeCount_33 rfl (lv_at hl 1 rfl) ?_
  exact kt_iret hx hb hr hlocks hP hD hS dX0_planeCount_34 [0] rfl rfl rfl rfl ⟨rfl, rfl⟩
set_option maxHeartbeats 4000000 in
set_option maxRecDepth 100000 in
theorem c_X0_madeBy (l : Launch) (G : va_G) (cy : Nat → ClassId) (r2 : Nat) (r3 : Nat) (p0 : Int32) : Kt l G cy yX0_madeBy cX0_madeBy 4 (some .int) ({ frames := 10, cells := 0, slots := 0, locals := 200 } : Room) [.ref r2, .int p0] [(r2, .inr (0, [.ref r3, .int 0, .int 0]))] (fun (v : Option Value) (w1 : va_W) => v = some (.int 0) ∧ w1 = [(r2, .inr (0, [.ref r3, .int 0, .int 0]))]) := by
  refine kt_ofW (by decide) (Nat.le_of_ble_eq_true rfl) ?_
  intro p e s m below meth c A ls hx hb hr hU hown hlocks hml hin hP hK hD hA hS hl
  have hown : s.vm.findClass RX0 = some m.cls := hown
  have hl : lv_has ls 4 [(0, .ref r2), (1, .int p0)] := hl
  refine lv_iconst (v := 0) hx hb dX0_madeBy_0 (by decide) ?_
  refine lv_istore_n (lv' := [(2, .int 0), (0, .ref r2), (1, .int p0)]) hx hb dX0_madeBy_1 rfl hl (by decide) rfl (fun ls hl => ?_)
  refine lv_iconst (v := 0) hx hb dX0_madeBy_2 (by decide) ?_
  refine lv_istore_n (lv' := [(3, .int 0), (2, .int 0), (0, .ref r2), (1, .int p0)]) hx hb dX0_madeBy_3 rfl hl (by decide) rfl (fun ls hl => ?_)
  refine lv_iload_n hx hb dX0_madeBy_4 rfl (lv_at hl 0 rfl) ?_
  refine lv_aload_n hx hb dX0_madeBy_5 rfl (lv_at hl 2 rfl) ?_
  refine va_get (D := G) (ci := 0) (v := .int 0) (C := RX0) (T := TX0) (N := 3) hx hb hU in_X0 hown hK.1 hP 0 rfl rfl 2 (by decide) (hU _ u_179) (fun _ h9 => h9) rfl dX0_madeBy_6 ?_
  refine lv_icmp_ge (tgt := 34) hx hb dX0_madeBy_9 (by decide) (fun _ => ?_) (fun c9 => absurd (by decide) c9)
  refine lv_iload_n hx hb dX0_madeBy_34 rfl (lv_at hl 1 rfl) ?_
  exact kt_iret hx hb hr hlocks hP hD hS dX0_madeBy_35 [0] rfl rfl rfl rfl ⟨rfl, rfl⟩
set_option maxHeartbeats 4000000 in
set_option maxRecDepth 100000 in
theorem c_X0_unusedSteps (l : Launch) (G : va_G) (cy : Nat → ClassId) (r2 : Nat) (r3 : Nat) : Kt l G cy yX0_unusedSteps cX0_unusedSteps 3 (some .int) ({ frames := 10, cells := 0, slots := 0, locals := 200 } : Room) [.ref r2] [(r2, .inr (0, [.ref r3, .int 0, .int 0]))] (fun (v : Option Value) (w1 : va_W) => v = some (.int 0) ∧ w1 = [(r2, .inr (0, [.ref r3, .int 0, .int 0]))]) := by
  refine kt_ofW (by decide) (Nat.le_of_ble_eq_true rfl) ?_
  intro p e s m below meth c A ls hx hb hr hU hown hlocks hml hin hP hK hD hA hS hl
  have hown : s.vm.findClass RX0 = some m.cls := hown
  have hl : lv_has ls 3 [(0, .ref r2)] := hl
  refine lv_iconst (v := 0) hx hb dX0_unusedSteps_0 (by decide) ?_
  refine lv_istore_n (lv' := [(1, .int 0), (0, .ref r2)]) hx hb dX0_unusedSteps_1 rfl hl (by decide) rfl (fun ls hl => ?_)
  refine lv_aload_n hx hb dX0_unusedSteps_2 rfl (lv_at hl 1 rfl) ?_
  refine va_get (D := G) (ci := 0) (v := .int 0) (C := RX0) (T := TX0) (N := 3) hx hb hU in_X0 hown hK.1 hP 0 rfl rfl 1 (by decide) (hU _ u_174) (fun _ h9 => h9) rfl dX0_unusedSteps_3 ?_
  refine lv_istore_n (lv' := [(2, .int 0), (1, .int 0), (0, .ref r2)]) hx hb dX0_unusedSteps_6 rfl hl (by decide) rfl (fun ls hl => ?_)
  refine lv_iload_n hx hb dX0_unusedSteps_7 rfl (lv_at hl 0 rfl) ?_
  refine lv_aload_n hx hb dX0_unusedSteps_8 rfl (lv_at hl 2 rfl) ?_
  refine va_get (D := G) (ci := 0) (v := .int 0) (C := RX0) (T := TX0) (N := 3) hx hb hU in_X0 hown hK.1 hP 0 rfl rfl 2 (by decide) (hU _ u_179) (fun _ h9 => h9) rfl dX0_unusedSteps_9 ?_
  refine lv_icmp_ge (tgt := 32) hx hb dX0_unusedSteps_12 (by decide) (fun _ => ?_) (fun c9 => absurd (by decide) c9)
  refine lv_iload_n hx hb dX0_unusedSteps_32 rfl (lv_at hl 1 rfl) ?_
  exact kt_iret hx hb hr hlocks hP hD hS dX0_unusedSteps_33 [0] rfl rfl rfl rfl ⟨rfl, rfl⟩
set_option maxHeartbeats 4000000 in
set_option maxRecDepth 100000 in
theorem c_X0_lesserCore (l : Launch) (G : va_G) (cy : Nat → ClassId) (r2 : Nat) (r3 : Nat) : Kt l G cy yX0_lesserCore cX0_lesserCore 9 (some .int) ({ frames := 10, cells := 0, slots := 0, locals := 200 } : Room) [.ref r2, .int 0, .int 0, .long (-1), .int (-1)] [(r2, .inr (0, [.ref r3, .int 0, .int 0]))] (fun (v : Option Value) (w1 : va_W) => v = some (.int (-1)) ∧ w1 = [(r2, .inr (0, [.ref r3, .int 0, .int 0]))]) := by
  refine kt_ofW (by decide) (Nat.le_of_ble_eq_true rfl) ?_
  intro p e s m below meth c A ls hx hb hr hU hown hlocks hml hin hP hK hD hA hS hl
  have hown : s.vm.findClass RX0 = some m.cls := hown
  have hl : lv_has ls 9 [(0, .ref r2), (1, .int 0), (2, .int 0), (3, .long (-1)), (5, .int (-1))] := hl
  refine lv_iload hx hb dX0_lesserCore_0 (lv_at hl 4 rfl) ?_
  refine lv_iconst (v := (-1)) hx hb dX0_lesserCore_2 (by decide) ?_
  refine lv_icmp_eq (tgt := 21) hx hb dX0_lesserCore_3 (by decide) (fun _ => ?_) (fun c9 => absurd (by decide) c9)
  refine lv_lload_n hx hb dX0_lesserCore_21 rfl (lv_at hl 3 rfl) ?_
  refine lv_lconst (v := 0) hx hb dX0_lesserCore_22 (by decide) ?_
  refine W.lcmp hx hb dX0_lesserCore_23 (lx_top (y := (-1)) (by decide +kernel) ?_)
  refine lv_if_ne (tgt := 29) hx hb dX0_lesserCore_24 (by decide) (fun _ => ?_) (fun c9 => absurd c9 (by decide))
  refine lv_iload_n hx hb dX0_lesserCore_29 rfl (lv_at hl 1 rfl) ?_
  refine lv_if_le (tgt := 45) hx hb dX0_lesserCore_30 (by decide) (fun _ => ?_) (fun c9 => absurd (by decide) c9)
  refine lv_iload hx hb dX0_lesserCore_45 (lv_at hl 4 rfl) ?_
  exact kt_iret hx hb hr hlocks hP hD hS dX0_lesserCore_47 [0] rfl rfl rfl rfl ⟨rfl, rfl⟩
set_option maxHeartbeats 4000000 in
set_option maxRecDepth 100000 in
theorem c_X0_leastCore (l : Launch) (G : va_G) (cy : Nat → ClassId) (r2 : Nat) (r3 : Nat) : Kt l G cy yX0_leastCore cX0_leastCore 1 (some .int) ({ frames := 12, cells := 0, slots := 0, locals := 300 } : Room) [.ref r2] [(r2, .inr (0, [.ref r3, .int 0, .int 0]))] (fun (v : Option Value) (w1 : va_W) => v = some (.int (-1)) ∧ w1 = [(r2, .inr (0, [.ref r3, .int 0, .int 0]))]) := by
  refine kt_ofW (by decide) (Nat.le_of_ble_eq_true rfl) ?_
  intro p e s m below meth c A ls hx hb hr hU hown hlocks hml hin hP hK hD hA hS hl
  have hown : s.vm.findClass RX0 = some m.cls := hown
  have hl : lv_has ls 1 [(0, .ref r2)] := hl
  refine lv_aload_n hx hb dX0_leastCore_0 rfl (lv_at hl 0 rfl) ?_
  refine lv_aload_n hx hb dX0_leastCore_1 rfl (lv_at hl 0 rfl) ?_
  refine va_get (D := G) (ci := 0) (v := .int 0) (C := RX0) (T := TX0) (N := 3) hx hb hU in_X0 hown hK.1 hP 0 rfl rfl 1 (by decide) (hU _ u_174) (fun _ h9 => h9) rfl dX0_leastCore_2 ?_
  refine lv_iconst (v := 0) hx hb dX0_leastCore_5 (by decide) ?_
  refine lv_ldc2 hx hb hown (hU _ u_302) dX0_leastCore_6 ?_
  refine lv_iconst (v := (-1)) hx hb dX0_leastCore_9 (by decide) ?_
  refine kt_callS (wc := [(r2, .inr (0, [.ref r3, .int 0, .int 0]))]) (wr := []) (As := [.ref r2, .int 0, .int 0, .long (-1), .int (-1)]) (rest := []) (c_X0_lesserCore l G cy r2 r3) m_X0_lesserCore u_440 hx hb hml hown hU hl.1 hK hP hD hS hA dX0_leastCore_10 [0] [] rfl rfl rfl rfl rfl rfl (Nat.le_of_ble_eq_true rfl) (fun v9 w9 H locs hw hP hD hS => ?_)
  obtain ⟨rfl, rfl⟩ := hw
  have hP : va_P G vwCl [(r2, .inr (0, [.ref r3, .int 0, .int 0]))] H := hP
  have hD : va_D A [(r2, .inr (0, [.ref r3, .int 0, .int 0]))] := hD
  refine W.eq (g2 := F0 m 13 ls [.int (-1)]) rfl ?_
  refine W.widen (k := 0) (n := 0) (Nat.le_of_ble_eq_true rfl) (Nat.le_of_ble_eq_true rfl) ?_
  exact kt_iret hx hb hr hlocks hP hD hS dX0_leastCore_13 [0] rfl rfl rfl rfl ⟨rfl, rfl⟩
set_option maxHeartbeats 4000000 in
set_option maxRecDepth 100000 in
theorem c_J13_bitCount_95d88 (l : Launch) (G : va_G) (cy : Nat → ClassId)  : Kt l G cy yJ13_bitCount_95d88 cJ13_bitCount_95d88 2 (some .int) ({ frames := 10, cells := 0, slots := 0, locals := 200 } : Room) [.long (-1)] [] (fun (v : Option Value) (w1 : va_W) => v = some (.int 64) ∧ w1 = []) := by
  refine kt_ofW (by decide) (Nat.le_of_ble_eq_true rfl) ?_
  intro p e s m below meth c A ls hx hb hr hU hown hlocks hml hin hP hK hD hA hS hl
  have hown : s.vm.findClass RJ13 = some m.cls := hown
  have hl : lv_has ls 2 [(0, .long (-1))] := hl
  refine lv_lload_n hx hb dJ13_bitCount_95d88_0 rfl (lv_at hl 0 rfl) ?_
  refine lv_lload_n hx hb dJ13_bitCount_95d88_1 rfl (lv_at hl 0 rfl) ?_
  refine lv_iconst (v := 1) hx hb dJ13_bitCount_95d88_2 (by decide) ?_
  refine lv_lushr (v := 9223372036854775807) hx hb dJ13_bitCount_95d88_3 (by decide +kernel) ?_
  refine lv_ldc2 hx hb hown (hU _ u_306) dJ13_bitCount_95d88_4 ?_
  refine lv_land hx hb dJ13_bitCount_95d88_7 (lx_topl (y := 6148914691236517205) (by decide +kernel) ?_)
  refine lv_lsub hx hb dJ13_bitCount_95d88_8 (lx_topl (y := (-6148914691236517206)) (by decide +kernel) ?_)
  refine lv_lstore_n (lv' := [(0, .long (-6148914691236517206))]) hx hb dJ13_bitCount_95d88_9 rfl hl (by decide) rfl (fun ls hl => ?_)
  refine lv_lload_n hx hb dJ13_bitCount_95d88_10 rfl (lv_at hl 0 rfl) ?_
  refine lv_ldc2 hx hb hown (hU _ u_307) dJ13_bitCount_95d88_11 ?_
  refine lv_land hx hb dJ13_bitCount_95d88_14 (lx_topl (y := 2459565876494606882) (by decide +kernel) ?_)
  refine lv_lload_n hx hb dJ13_bitCount_95d88_15 rfl (lv_at hl 0 rfl) ?_
  refine lv_iconst (v := 2) hx hb dJ13_bitCount_95d88_16 (by decide) ?_
  refine lv_lushr (v := 3074457345618258602) hx hb dJ13_bitCount_95d88_17 (by decide +kernel) ?_
  refine lv_ldc2 hx hb hown (hU _ u_307) dJ13_bitCount_95d88_18 ?_
  refine lv_land hx hb dJ13_bitCount_95d88_21 (lx_topl (y := 2459565876494606882) (by decide +kernel) ?_)
  refine lv_ladd hx hb dJ13_bitCount_95d88_22 (lx_topl (y := 4919131752989213764) (by decide +kernel) ?_)
  refine lv_lstore_n (lv' := [(0, .long 4919131752989213764)]) hx hb dJ13_bitCount_95d88_23 rfl hl (by decide) rfl (fun ls hl => ?_)
  refine lv_lload_n hx hb dJ13_bitCount_95d88_24 rfl (lv_at hl 0 rfl) ?_
  refine lv_lload_n hx hb dJ13_bitCount_95d88_25 rfl (lv_at hl 0 rfl) ?_
  refine lv_iconst (v := 4) hx hb dJ13_bitCount_95d88_26 (by decide) ?_
  refine lv_lushr (v := 307445734561825860) hx hb dJ13_bitCount_95d88_27 (by decide +kernel) ?_
  refine lv_ladd hx hb dJ13_bitCount_95d88_28 (lx_topl (y := 5226577487551039624) (by decide +kernel) ?_)
  refine lv_ldc2 hx hb hown (hU _ u_308) dJ13_bitCount_95d88_29 ?_
  refine lv_land hx hb dJ13_bitCount_95d88_32 (lx_topl (y := 578721382704613384) (by decide +kernel) ?_)
  refine lv_lstore_n (lv' := [(0, .long 578721382704613384)]) hx hb dJ13_bitCount_95d88_33 rfl hl (by decide) rfl (fun ls hl => ?_)
  refine lv_lload_n hx hb dJ13_bitCount_95d88_34 rfl (lv_at hl 0 rfl) ?_
  refine lv_lload_n hx hb dJ13_bitCount_95d88_35 rfl (lv_at hl 0 rfl) ?_
  refine lv_bipush (v := 8) hx hb dJ13_bitCount_95d88_36 (by decide) ?_
  refine lv_lushr (v := 2260630401189896) hx hb dJ13_bitCount_95d88_38 (by decide +kernel) ?_
  refine lv_ladd hx hb dJ13_bitCount_95d88_39 (lx_topl (y := 580982013105803280) (by decide +kernel) ?_)
  refine lv_lstore_n (lv' := [(0, .long 580982013105803280)]) hx hb dJ13_bitCount_95d88_40 rfl hl (by decide) rfl (fun ls hl => ?_)
  refine lv_lload_n hx hb dJ13_bitCount_95d88_41 rfl (lv_at hl 0 rfl) ?_
  refine lv_lload_n hx hb dJ13_bitCount_95d88_42 rfl (lv_at hl 0 rfl) ?_
  refine lv_bipush (v := 16) hx hb dJ13_bitCount_95d88_43 (by decide) ?_
  refine lv_lushr (v := 8865081987088) hx hb dJ13_bitCount_95d88_45 (by decide +kernel) ?_
  refine lv_ladd hx hb dJ13_bitCount_95d88_46 (lx_topl (y := 580990878187790368) (by decide +kernel) ?_)
  refine lv_lstore_n (lv' := [(0, .long 580990878187790368)]) hx hb dJ13_bitCount_95d88_47 rfl hl (by decide) rfl (fun ls hl => ?_)
  refine lv_lload_n hx hb dJ13_bitCount_95d88_48 rfl (lv_at hl 0 rfl) ?_
  refine lv_lload_n hx hb dJ13_bitCount_95d88_49 rfl (lv_at hl 0 rfl) ?_
  refine lv_bipush (v := 32) hx hb dJ13_bitCount_95d88_50 (by decide) ?_
  refine lv_lushr (v := 135272480) hx hb dJ13_bitCount_95d88_52 (by decide +kernel) ?_
  refine lv_ladd hx hb dJ13_bitCount_95d88_53 (lx_topl (y := 580990878323062848) (by decide +kernel) ?_)
  refine lv_lstore_n (lv' := [(0, .long 580990878323062848)]) hx hb dJ13_bitCount_95d88_54 rfl hl (by decide) rfl (fun ls hl => ?_)
  refine lv_lload_n hx hb dJ13_bitCount_95d88_55 rfl (lv_at hl 0 rfl) ?_
  refine lv_l2i (v := 674248768) hx hb dJ13_bitCount_95d88_56 (by decide +kernel) ?_
  refine lv_bipush (v := 127) hx hb dJ13_bitCount_95d88_57 (by decide) ?_
  refine lv_iand hx hb dJ13_bitCount_95d88_59 (lx_top (y := 64) (by decide +kernel) ?_)
  exact kt_iret hx hb hr hlocks hP hD hS dJ13_bitCount_95d88_60 [] rfl rfl rfl rfl ⟨rfl, rfl⟩
