set_option maxHeartbeats 4000000 in
set_option maxRecDepth 100000 in
theorem c_X0_init (l : Launch) (G : va_G) (cy : Nat → ClassId) (h0 : Nat) (a1 : Nat) (p1 : Int32) (p2 : Int32) : Kt l G cy yX0_init cX0_init 4 none ({ frames := 10, cells := 0, slots := 0, locals := 200 } : Room) [.ref h0, .ref a1, .int p1, .int p2] [(h0, .inr (0, [.null, .int 0, .int 0]))] (fun (v : Option Value) (w1 : va_W) => v = none ∧ w1 = [(h0, .inr (0, [.ref a1, .int p1, .int p2]))]) := by
  refine kt_ofW (by decide) (Nat.le_of_ble_eq_true rfl) ?_
  intro p e s m below meth c A ls hx hb hr hU hown hlocks hml hin hP hK hD hA hS hl
  have hown : s.vm.findClass RX0 = some m.cls := hown
  have hl : lv_has ls 4 [(0, .ref h0), (1, .ref a1), (2, .int p1), (3, .int p2)] := hl
  refine lv_aload_n hx hb dX0_init_0 rfl (lv_at hl 0 rfl) ?_
  refine W.objInit hx hb hown (hU _ u_166) (hU _ u_157) (hU _ u_158) rfl (by rw [hml]; exact hl.1) rfl dX0_init_1 (Nat.le_of_ble_eq_true rfl) (Nat.le_of_ble_eq_true rfl) ?_
  refine W.eq (g2 := F0 m 4 ls []) rfl ?_
  refine lv_aload_n hx hb dX0_init_4 rfl (lv_at hl 0 rfl) ?_
  refine lv_aload_n hx hb dX0_init_5 rfl (lv_at hl 1 rfl) ?_
  refine va_putF (D := G) (ci := 0) (v := .ref a1) (ty := .array (.object "PlaneProof$Line")) (C := RX0) (T := TX0) (N := 3) hx hb hU in_X0 tyX0 tyX0_ok nmX0 hown hK.1 hP hD hS 0 rfl rfl 0 (by decide) (hU _ u_167) (fun _ h9 => h9) rfl hin rfl (by decide +kernel) rfl rfl (Nat.le_of_ble_eq_true rfl) dX0_init_6 (fun H locs hP hD hS => ?_)
  have hP : va_P G vwCl [(h0, .inr (0, [.ref a1, .int 0, .int 0]))] H := hP
  have hD : va_D A [(h0, .inr (0, [.ref a1, .int 0, .int 0]))] := hD
  refine lv_aload_n hx hb dX0_init_9 rfl (lv_at hl 0 rfl) ?_
  refine lv_iload_n hx hb dX0_init_10 rfl (lv_at hl 2 rfl) ?_
  refine va_putF (D := G) (ci := 0) (v := .int p1) (ty := .int) (C := RX0) (T := TX0) (N := 3) hx hb hU in_X0 tyX0 tyX0_ok nmX0 hown hK.1 hP hD hS 0 rfl rfl 1 (by decide) (hU _ u_174) (fun _ h9 => h9) rfl hin rfl (by decide +kernel) rfl rfl (Nat.le_of_ble_eq_true rfl) dX0_init_11 (fun H locs hP hD hS => ?_)
  have hP : va_P G vwCl [(h0, .inr (0, [.ref a1, .int p1, .int 0]))] H := hP
  have hD : va_D A [(h0, .inr (0, [.ref a1, .int p1, .int 0]))] := hD
  refine lv_aload_n hx hb dX0_init_14 rfl (lv_at hl 0 rfl) ?_
  refine lv_iload_n hx hb dX0_init_15 rfl (lv_at hl 3 rfl) ?_
  refine va_putF (D := G) (ci := 0) (v := .int p2) (ty := .int) (C := RX0) (T := TX0) (N := 3) hx hb hU in_X0 tyX0 tyX0_ok nmX0 hown hK.1 hP hD hS 0 rfl rfl 2 (by decide) (hU _ u_179) (fun _ h9 => h9) rfl hin rfl (by decide +kernel) rfl rfl (Nat.le_of_ble_eq_true rfl) dX0_init_16 (fun H locs hP hD hS => ?_)
  have hP : va_P G vwCl [(h0, .inr (0, [.ref a1, .int p1, .int p2]))] H := hP
  have hD : va_D A [(h0, .inr (0, [.ref a1, .int p1, .int p2]))] := hD
  exact kt_vret hx hb hr hlocks hP hD hS dX0_init_19 [0] rfl rfl rfl rfl ⟨rfl, rfl⟩
set_option maxHeartbeats 4000000 in
set_option maxRecDepth 100000 in
theorem c_X4_init (l : Launch) (G : va_G) (cy : Nat → ClassId) (h0 : Nat) : Kt l G cy yX4_init cX4_init 1 none ({ frames := 10, cells := 1, slots := 6, locals := 200 } : Room) [.ref h0] [(h0, .inr (4, [.int 0, .int 0, .int 0, .null]))] (fun (v : Option Value) (w1 : va_W) => ∃ (b : Nat), v = none ∧ w1 = [(h0, .inr (4, [.int 0, .int 0, .int (-1), .ref b])), (b, .inl (cy 1, 6, .inl (fun _ => 0)))]) := by
  refine kt_ofW (by decide) (Nat.le_of_ble_eq_true rfl) ?_
  intro p e s m below meth c A ls hx hb hr hU hown hlocks hml hin hP hK hD hA hS hl
  have hown : s.vm.findClass RX4 = some m.cls := hown
  have hl : lv_has ls 1 [(0, .ref h0)] := hl
  refine lv_aload_n hx hb dX4_init_0 rfl (lv_at hl 0 rfl) ?_
  refine W.objInit hx hb hown (hU _ u_195) (hU _ u_157) (hU _ u_158) rfl (by rw [hml]; exact hl.1) rfl dX4_init_1 (Nat.le_of_ble_eq_true rfl) (Nat.le_of_ble_eq_true rfl) ?_
  refine W.eq (g2 := F0 m 4 ls []) rfl ?_
  refine lv_aload_n hx hb dX4_init_4 rfl (lv_at hl 0 rfl) ?_
  refine lv_iconst (v := (-1)) hx hb dX4_init_5 (by decide) ?_
  refine va_put (D := G) (ci := 4) (v := .int (-1)) (ty := .int) (C := RX4) (T := TX4) (N := 4) hx hb hU in_X4 tyX4 tyX4_ok nmX4 hown hK.1 hP hD hS 0 rfl rfl 2 (by decide) (hU _ u_200) (fun _ h9 => h9) rfl (by decide +kernel) rfl rfl (Nat.le_of_ble_eq_true rfl) dX4_init_6 (fun H locs hP hD hS => ?_)
  have hP : va_P G vwCl [(h0, .inr (4, [.int 0, .int 0, .int (-1), .null]))] H := hP
  have hD : va_D A [(h0, .inr (4, [.int 0, .int 0, .int (-1), .null]))] := hD
  refine lv_aload_n hx hb dX4_init_9 rfl (lv_at hl 0 rfl) ?_
  refine lv_bipush (v := 6) hx hb dX4_init_10 (by decide) ?_
  refine lx_newa (atype := .int) (ty := .int) (N' := 6) (a0 := (6, .inl (fun _ => 0))) hx hb hU u_214 rfl hK hP hD hS hA 1 rfl (fun _ h9 => h9) (fun _ => rfl) (by decide) (by decide +kernel) (Nat.le_of_ble_eq_true rfl) (Nat.le_of_ble_eq_true rfl) (Nat.le_of_ble_eq_true rfl) dX4_init_12 (fun q_1 H hP hD hS => ?_)
  have hP : va_P G vwCl [(h0, .inr (4, [.int 0, .int 0, .int (-1), .null])), (q_1, .inl (cy 1, 6, .inl (fun _ => 0)))] H := hP
  have hD : va_D A [(h0, .inr (4, [.int 0, .int 0, .int (-1), .null])), (q_1, .inl (cy 1, 6, .inl (fun _ => 0)))] := hD
  refine W.widen (k := 1) (n := 6) (Nat.le_of_ble_eq_true rfl) (Nat.le_of_ble_eq_true rfl) ?_
  refine va_putF (D := G) (ci := 4) (v := .ref q_1) (ty := .array (.int)) (C := RX4) (T := TX4) (N := 4) hx hb hU in_X4 tyX4 tyX4_ok nmX4 hown hK.1 hP hD hS 0 rfl rfl 3 (by decide) (hU _ u_203) (fun _ h9 => h9) rfl hin rfl (by decide +kernel) rfl rfl (Nat.le_of_ble_eq_true rfl) dX4_init_14 (fun H locs hP hD hS => ?_)
  have hP : va_P G vwCl [(h0, .inr (4, [.int 0, .int 0, .int (-1), .ref q_1])), (q_1, .inl (cy 1, 6, .inl (fun _ => 0)))] H := hP
  have hD : va_D A [(h0, .inr (4, [.int 0, .int 0, .int (-1), .ref q_1])), (q_1, .inl (cy 1, 6, .inl (fun _ => 0)))] := hD
  exact kt_vret hx hb hr hlocks hP hD hS dX4_init_17 [0, 1] rfl rfl rfl rfl ⟨q_1, rfl, rfl⟩
set_option maxHeartbeats 4000000 in
set_option maxRecDepth 100000 in
theorem c_X7_init (l : Launch) (G : va_G) (cy : Nat → ClassId) (h0 : Nat) : Kt l G cy yX7_init cX7_init 1 none ({ frames := 10, cells := 1, slots := 400, locals := 200 } : Room) [.ref h0] [(h0, .inr (7, [.null, .int 0, .int 0]))] (fun (v : Option Value) (w1 : va_W) => ∃ (b : Nat), v = none ∧ w1 = [(h0, .inr (7, [.ref b, .int 0, .int 0])), (b, .inl (cy 0, 400, .inl (fun _ => 0)))]) := by
  refine kt_ofW (by decide) (Nat.le_of_ble_eq_true rfl) ?_
  intro p e s m below meth c A ls hx hb hr hU hown hlocks hml hin hP hK hD hA hS hl
  have hown : s.vm.findClass RX7 = some m.cls := hown
  have hl : lv_has ls 1 [(0, .ref h0)] := hl
  refine lv_aload_n hx hb dX7_init_0 rfl (lv_at hl 0 rfl) ?_
  refine W.objInit hx hb hown (hU _ u_222) (hU _ u_157) (hU _ u_158) rfl (by rw [hml]; exact hl.1) rfl dX7_init_1 (Nat.le_of_ble_eq_true rfl) (Nat.le_of_ble_eq_true rfl) ?_
  refine W.eq (g2 := F0 m 4 ls []) rfl ?_
  refine lv_aload_n hx hb dX7_init_4 rfl (lv_at hl 0 rfl) ?_
  refine lv_sipush (v := 400) hx hb dX7_init_5 (by decide) ?_
  refine lx_newa (atype := .byte) (ty := .byte) (N' := 400) (a0 := (400, .inl (fun _ => 0))) hx hb hU u_189 rfl hK hP hD hS hA 0 rfl (fun _ h9 => h9) (fun _ => rfl) (by decide) (by decide +kernel) (Nat.le_of_ble_eq_true rfl) (Nat.le_of_ble_eq_true rfl) (Nat.le_of_ble_eq_true rfl) dX7_init_8 (fun q_1 H hP hD hS => ?_)
  have hP : va_P G vwCl [(h0, .inr (7, [.null, .int 0, .int 0])), (q_1, .inl (cy 0, 400, .inl (fun _ => 0)))] H := hP
  have hD : va_D A [(h0, .inr (7, [.null, .int 0, .int 0])), (q_1, .inl (cy 0, 400, .inl (fun _ => 0)))] := hD
  refine W.widen (k := 1) (n := 400) (Nat.le_of_ble_eq_true rfl) (Nat.le_of_ble_eq_true rfl) ?_
  refine va_put (D := G) (ci := 7) (v := .ref q_1) (ty := .array (.byte)) (C := RX7) (T := TX7) (N := 3) hx hb hU in_X7 tyX7 tyX7_ok nmX7 hown hK.1 hP hD hS 0 rfl rfl 0 (by decide) (hU _ u_223) (fun _ h9 => h9) rfl (by decide +kernel) rfl rfl (Nat.le_of_ble_eq_true rfl) dX7_init_10 (fun H locs hP hD hS => ?_)
  have hP : va_P G vwCl [(h0, .inr (7, [.ref q_1, .int 0, .int 0])), (q_1, .inl (cy 0, 400, .inl (fun _ => 0)))] H := hP
  have hD : va_D A [(h0, .inr (7, [.ref q_1, .int 0, .int 0])), (q_1, .inl (cy 0, 400, .inl (fun _ => 0)))] := hD
  exact kt_vret hx hb hr hlocks hP hD hS dX7_init_13 [0, 1] rfl rfl rfl rfl ⟨q_1, rfl, rfl⟩
set_option maxHeartbeats 4000000 in
set_option maxRecDepth 100000 in
theorem c_X3_init (l : Launch) (G : va_G) (cy : Nat → ClassId) (h0 : Nat) (a1 : Nat) : Kt l G cy yX3_init cX3_init 2 none ({ frames := 10, cells := 1, slots := 56, locals := 200 } : Room) [.ref h0, .ref a1] [(h0, .inr (3, [.null, .null, .int 0]))] (fun (v : Option Value) (w1 : va_W) => ∃ (b : Nat), v = none ∧ w1 = [(h0, .inr (3, [.ref a1, .ref b, .int 0])), (b, .inl (cy 1, 56, .inl (fun _ => 0)))]) := by
  refine kt_ofW (by decide) (Nat.le_of_ble_eq_true rfl) ?_
  intro p e s m below meth c A ls hx hb hr hU hown hlocks hml hin hP hK hD hA hS hl
  have hown : s.vm.findClass RX3 = some m.cls := hown
  have hl : lv_has ls 2 [(0, .ref h0), (1, .ref a1)] := hl
  refine lv_aload_n hx hb dX3_init_0 rfl (lv_at hl 0 rfl) ?_
  refine W.objInit hx hb hown (hU _ u_239) (hU _ u_157) (hU _ u_158) rfl (by rw [hml]; exact hl.1) rfl dX3_init_1 (Nat.le_of_ble_eq_true rfl) (Nat.le_of_ble_eq_true rfl) ?_
  refine W.eq (g2 := F0 m 4 ls []) rfl ?_
  refine lv_aload_n hx hb dX3_init_4 rfl (lv_at hl 0 rfl) ?_
  refine lv_aload_n hx hb dX3_init_5 rfl (lv_at hl 1 rfl) ?_
  refine va_putF (D := G) (ci := 3) (v := .ref a1) (ty := .object "PlaneProof$Scribe") (C := RX3) (T := TX3) (N := 3) hx hb hU in_X3 tyX3 tyX3_ok nmX3 hown hK.1 hP hD hS 0 rfl rfl 0 (by decide) (hU _ u_240) (fun _ h9 => h9) rfl hin rfl (by decide +kernel) rfl rfl (Nat.le_of_ble_eq_true rfl) dX3_init_6 (fun H locs hP hD hS => ?_)
  have hP : va_P G vwCl [(h0, .inr (3, [.ref a1, .null, .int 0]))] H := hP
  have hD : va_D A [(h0, .inr (3, [.ref a1, .null, .int 0]))] := hD
  refine lv_aload_n hx hb dX3_init_9 rfl (lv_at hl 0 rfl) ?_
  refine lv_bipush (v := 56) hx hb dX3_init_10 (by decide) ?_
  refine lx_newa (atype := .int) (ty := .int) (N' := 56) (a0 := (56, .inl (fun _ => 0))) hx hb hU u_214 rfl hK hP hD hS hA 1 rfl (fun _ h9 => h9) (fun _ => rfl) (by decide) (by decide +kernel) (Nat.le_of_ble_eq_true rfl) (Nat.le_of_ble_eq_true rfl) (Nat.le_of_ble_eq_true rfl) dX3_init_12 (fun q_1 H hP hD hS => ?_)
  have hP : va_P G vwCl [(h0, .inr (3, [.ref a1, .null, .int 0])), (q_1, .inl (cy 1, 56, .inl (fun _ => 0)))] H := hP
  have hD : va_D A [(h0, .inr (3, [.ref a1, .null, .int 0])), (q_1, .inl (cy 1, 56, .inl (fun _ => 0)))] := hD
  refine W.widen (k := 1) (n := 56) (Nat.le_of_ble_eq_true rfl) (Nat.le_of_ble_eq_true rfl) ?_
  refine va_putF (D := G) (ci := 3) (v := .ref q_1) (ty := .array (.int)) (C := RX3) (T := TX3) (N := 3) hx hb hU in_X3 tyX3 tyX3_ok nmX3 hown hK.1 hP hD hS 0 rfl rfl 1 (by decide) (hU _ u_241) (fun _ h9 => h9) rfl hin rfl (by decide +kernel) rfl rfl (Nat.le_of_ble_eq_true rfl) dX3_init_14 (fun H locs hP hD hS => ?_)
  have hP : va_P G vwCl [(h0, .inr (3, [.ref a1, .ref q_1, .int 0])), (q_1, .inl (cy 1, 56, .inl (fun _ => 0)))] H := hP
  have hD : va_D A [(h0, .inr (3, [.ref a1, .ref q_1, .int 0])), (q_1, .inl (cy 1, 56, .inl (fun _ => 0)))] := hD
  exact kt_vret hx hb hr hlocks hP hD hS dX3_init_17 [0, 1] rfl rfl rfl rfl ⟨q_1, rfl, rfl⟩
set_option maxHeartbeats 4000000 in
set_option maxRecDepth 100000 in
theorem c_X11_init (l : Launch) (G : va_G) (cy : Nat → ClassId) (h0 : Nat) : Kt l G cy yX11_init cX11_init 1 none ({ frames := 12, cells := 10, slots := 938, locals := 300 } : Room) [.ref h0] [(h0, .inr (10, [.null, .int 0, .int 0, .null, .null, .null, .int 0, .null, .null]))] (fun (v : Option Value) (w1 : va_W) => ∃ (r1 : Nat), ∃ (r2 : Nat), ∃ (r4 : Nat), ∃ (r6 : Nat), ∃ (r7 : Nat), ∃ (r9 : Nat), ∃ (r3 : Nat), ∃ (r5 : Nat), ∃ (r8 : Nat), ∃ (r10 : Nat), v = none ∧ w1 = [(h0, .inr (10, [.ref r1, .int 0, .int (-1), .ref r2, .ref r4, .ref r6, .int (-2), .ref r7, .ref r9])), (r1, .inl (cy 0, 400, .inl (fun _ => 0))), (r2, .inr (0, [.ref r3, .int 0, .int 0])), (r3, .inl (cy 4, 56, .inr (.inr (.inr (.inr (fun _ => none)))))), (r4, .inr (4, [.int 0, .int 0, .int (-1), .ref r5])), (r5, .inl (cy 1, 6, .inl (fun _ => 0))), (r6, .inl (cy 5, 7, .inr (.inr (.inr (.inr (fun _ => none)))))), (r7, .inr (7, [.ref r8, .int 0, .int 0])), (r8, .inl (cy 0, 400, .inl (fun _ => 0))), (r9, .inr (3, [.ref r7, .ref r10, .int 0])), (r10, .inl (cy 1, 56, .inl (fun _ => 0)))]) := by
  refine kt_ofW (by decide) (Nat.le_of_ble_eq_true rfl) ?_
  intro p e s m below meth c A ls hx hb hr hU hown hlocks hml hin hP hK hD hA hS hl
  have hown : s.vm.findClass RX11 = some m.cls := hown
  have hl : lv_has ls 1 [(0, .ref h0)] := hl
  refine lv_aload_n hx hb dX11_init_0 rfl (lv_at hl 0 rfl) ?_
  refine W.objInit hx hb hown (hU _ u_156) (hU _ u_157) (hU _ u_158) rfl (by rw [hml]; exact hl.1) rfl dX11_init_1 (Nat.le_of_ble_eq_true rfl) (Nat.le_of_ble_eq_true rfl) ?_
  refine W.eq (g2 := F0 m 4 ls []) rfl ?_
  refine lv_aload_n hx hb dX11_init_4 rfl (lv_at hl 0 rfl) ?_
  refine lv_sipush (v := 400) hx hb dX11_init_5 (by decide) ?_
  refine lx_newa (atype := .byte) (ty := .byte) (N' := 400) (a0 := (400, .inl (fun _ => 0))) hx hb hU u_189 rfl hK hP hD hS hA 0 rfl (fun _ h9 => h9) (fun _ => rfl) (by decide) (by decide +kernel) (Nat.le_of_ble_eq_true rfl) (Nat.le_of_ble_eq_true rfl) (Nat.le_of_ble_eq_true rfl) dX11_init_8 (fun q_1 H hP hD hS => ?_)
  have hP : va_P G vwCl [(h0, .inr (10, [.null, .int 0, .int 0, .null, .null, .null, .int 0, .null, .null])), (q_1, .inl (cy 0, 400, .inl (fun _ => 0)))] H := hP
  have hD : va_D A [(h0, .inr (10, [.null, .int 0, .int 0, .null, .null, .null, .int 0, .null, .null])), (q_1, .inl (cy 0, 400, .inl (fun _ => 0)))] := hD
  refine W.widen (k := 1) (n := 400) (Nat.le_of_ble_eq_true rfl) (Nat.le_of_ble_eq_true rfl) ?_
  refine va_putF (D := G) (ci := 10) (v := .ref q_1) (ty := .array (.byte)) (C := RX11) (T := TX11) (N := 9) hx hb hU in_X11 tyX11 tyX11_ok nmX11 hown hK.1 hP hD hS 0 rfl rfl 0 (by decide) (hU _ u_250) (fun _ h9 => h9) rfl hin rfl (by decide +kernel) rfl rfl (Nat.le_of_ble_eq_true rfl) dX11_init_10 (fun H locs hP hD hS => ?_)
  have hP : va_P G vwCl [(h0, .inr (10, [.ref q_1, .int 0, .int 0, .null, .null, .null, .int 0, .null, .null])), (q_1, .inl (cy 0, 400, .inl (fun _ => 0)))] H := hP
  have hD : va_D A [(h0, .inr (10, [.ref q_1, .int 0, .int 0, .null, .null, .null, .int 0, .null, .null])), (q_1, .inl (cy 0, 400, .inl (fun _ => 0)))] := hD
  refine lv_aload_n hx hb dX11_init_13 rfl (lv_at hl 0 rfl) ?_
  refine lv_iconst (v := 0) hx hb dX11_init_14 (by decide) ?_
  refine va_put (D := G) (ci := 10) (v := .int 0) (ty := .int) (C := RX11) (T := TX11) (N := 9) hx hb hU in_X11 tyX11 tyX11_ok nmX11 hown hK.1 hP hD hS 0 rfl rfl 1 (by decide) (hU _ u_251) (fun _ h9 => h9) rfl (by decide +kernel) rfl rfl (Nat.le_of_ble_eq_true rfl) dX11_init_15 (fun H locs hP hD hS => ?_)
  have hP : va_P G vwCl [(h0, .inr (10, [.ref q_1, .int 0, .int 0, .null, .null, .null, .int 0, .null, .null])), (q_1, .inl (cy 0, 400, .inl (fun _ => 0)))] H := hP
  have hD : va_D A [(h0, .inr (10, [.ref q_1, .int 0, .int 0, .null, .null, .null, .int 0, .null, .null])), (q_1, .inl (cy 0, 400, .inl (fun _ => 0)))] := hD
  refine lv_aload_n hx hb dX11_init_18 rfl (lv_at hl 0 rfl) ?_
  refine lv_iconst (v := (-1)) hx hb dX11_init_19 (by decide) ?_
  refine va_put (D := G) (ci := 10) (v := .int (-1)) (ty := .int) (C := RX11) (T := TX11) (N := 9) hx hb hU in_X11 tyX11 tyX11_ok nmX11 hown hK.1 hP hD hS 0 rfl rfl 2 (by decide) (hU _ u_252) (fun _ h9 => h9) rfl (by decide +kernel) rfl rfl (Nat.le_of_ble_eq_true rfl) dX11_init_20 (fun H locs hP hD hS => ?_)
  have hP : va_P G vwCl [(h0, .inr (10, [.ref q_1, .int 0, .int (-1), .null, .null, .null, .int 0, .null, .null])), (q_1, .inl (cy 0, 400, .inl (fun _ => 0)))] H := hP
  have hD : va_D A [(h0, .inr (10, [.ref q_1, .int 0, .int (-1), .null, .null, .null, .int 0, .null, .null])), (q_1, .inl (cy 0, 400, .inl (fun _ => 0)))] := hD
  refine lv_aload_n hx hb dX11_init_23 rfl (lv_at hl 0 rfl) ?_
  refine va_new (ci := 0) (fs := [.null, .int 0, .int 0]) (C := RX0) (T := TX0) (N := 3) hx hb hU in_X0 tyX0 tyX0_ok hown (hU _ u_159) (hU _ u_160) (hU _ u_124) hK.1 hP hD hS hA rfl df_X0 (Nat.le_of_ble_eq_true rfl) (Nat.le_of_ble_eq_true rfl) dX11_init_24 (fun q_2 H hP hD hS => ?_)
  have hP : va_P G vwCl [(h0, .inr (10, [.ref q_1, .int 0, .int (-1), .null, .null, .null, .int 0, .null, .null])), (q_1, .inl (cy 0, 400, .inl (fun _ => 0))), (q_2, .inr (0, [.null, .int 0, .int 0]))] H := hP
  have hD : va_D A [(h0, .inr (10, [.ref q_1, .int 0, .int (-1), .null, .null, .null, .int 0, .null, .null])), (q_1, .inl (cy 0, 400, .inl (fun _ => 0))), (q_2, .inr (0, [.null, .int 0, .int 0]))] := hD
  refine W.widen (k := 2) (n := 403) (Nat.le_of_ble_eq_true rfl) (Nat.le_of_ble_eq_true rfl) ?_
  refine lv_dup hx hb dX11_init_27 rfl ?_
  refine lv_bipush (v := 56) hx hb dX11_init_28 (by decide) ?_
  refine lx_newq (C := RX5) (N' := 56) hx hb hown hU u_161 hK.2.1 hK hP hD hS hA 4 rfl (by decide) (by decide +kernel) (Nat.le_of_ble_eq_true rfl) (Nat.le_of_ble_eq_true rfl) (Nat.le_of_ble_eq_true rfl) dX11_init_30 (fun q_3 H hP hD hS => ?_)
  have hP : va_P G vwCl [(h0, .inr (10, [.ref q_1, .int 0, .int (-1), .null, .null, .null, .int 0, .null, .null])), (q_1, .inl (cy 0, 400, .inl (fun _ => 0))), (q_2, .inr (0, [.null, .int 0, .int 0])), (q_3, .inl (cy 4, 56, .inr (.inr (.inr (.inr (fun _ => none))))))] H := hP
  have hD : va_D A [(h0, .inr (10, [.ref q_1, .int 0, .int (-1), .null, .null, .null, .int 0, .null, .null])), (q_1, .inl (cy 0, 400, .inl (fun _ => 0))), (q_2, .inr (0, [.null, .int 0, .int 0])), (q_3, .inl (cy 4, 56, .inr (.inr (.inr (.inr (fun _ => none))))))] := hD
  refine W.widen (k := 3) (n := 459) (Nat.le_of_ble_eq_true rfl) (Nat.le_of_ble_eq_true rfl) ?_
  refine lv_iconst (v := 0) hx hb dX11_init_33 (by decide) ?_
  refine lv_iconst (v := 0) hx hb dX11_init_34 (by decide) ?_
  refine kt_callI (wc := [(q_2, .inr (0, [.null, .int 0, .int 0]))]) (wr := [(h0, .inr (10, [.ref q_1, .int 0, .int (-1), .null, .null, .null, .int 0, .null, .null])), (q_1, .inl (cy 0, 400, .inl (fun _ => 0))), (q_3, .inl (cy 4, 56, .inr (.inr (.inr (.inr (fun _ => none))))))]) (As := [.ref q_3, .int 0, .int 0]) (rest := [.ref q_2, .ref h0]) (c_X0_init l G cy q_2 q_3 0 0) m_X0_init u_163 hx hb hml hown hU hl.1 hK hP hD hS hA dX11_init_35 [2] [0, 1, 3] rfl rfl rfl rfl rfl rfl (Nat.le_of_ble_eq_true rfl) (fun v9 w9 H locs hw hP hD hS => ?_)
  obtain ⟨rfl, rfl⟩ := hw
  have hP : va_P G vwCl [(h0, .inr (10, [.ref q_1, .int 0, .int (-1), .null, .null, .null, .int 0, .null, .null])), (q_1, .inl (cy 0, 400, .inl (fun _ => 0))), (q_3, .inl (cy 4, 56, .inr (.inr (.inr (.inr (fun _ => none)))))), (q_2, .inr (0, [.ref q_3, .int 0, .int 0]))] H := hP
  have hD : va_D A [(h0, .inr (10, [.ref q_1, .int 0, .int (-1), .null, .null, .null, .int 0, .null, .null])), (q_1, .inl (cy 0, 400, .inl (fun _ => 0))), (q_3, .inl (cy 4, 56, .inr (.inr (.inr (.inr (fun _ => none)))))), (q_2, .inr (0, [.ref q_3, .int 0, .int 0]))] := hD
  refine W.eq (g2 := F0 m 38 ls [.ref q_2, .ref h0]) rfl ?_
  refine W.widen (k := 3) (n := 459) (Nat.le_of_ble_eq_true rfl) (Nat.le_of_ble_eq_true rfl) ?_
  refine va_put (D := G) (ci := 10) (v := .ref q_2) (ty := .object "PlaneProof$Book") (C := RX11) (T := TX11) (N := 9) hx hb hU in_X11 tyX11 tyX11_ok nmX11 hown hK.1 hP hD hS 0 rfl rfl 3 (by decide) (hU _ u_253) (fun _ h9 => h9) rfl (by decide +kernel) rfl rfl (Nat.le_of_ble_eq_true rfl) dX11_init_38 (fun H locs hP hD hS => ?_)
  have hP : va_P G vwCl [(h0, .inr (10, [.ref q_1, .int 0, .int (-1), .ref q_2, .null, .null, .int 0, .null, .null])), (q_1, .inl (cy 0, 400, .inl (fun _ => 0))), (q_3, .inl (cy 4, 56, .inr (.inr (.inr (.inr (fun _ => none)))))), (q_2, .inr (0, [.ref q_3, .int 0, .int 0]))] H := hP
  have hD : va_D A [(h0, .inr (10, [.ref q_1, .int 0, .int (-1), .ref q_2, .null, .null, .int 0, .null, .null])), (q_1, .inl (cy 0, 400, .inl (fun _ => 0))), (q_3, .inl (cy 4, 56, .inr (.inr (.inr (.inr (fun _ => none)))))), (q_2, .inr (0, [.ref q_3, .int 0, .int 0]))] := hD
  refine lv_aload_n hx hb dX11_init_41 rfl (lv_at hl 0 rfl) ?_
  refine va_new (ci := 4) (fs := [.int 0, .int 0, .int 0, .null]) (C := RX4) (T := TX4) (N := 4) hx hb hU in_X4 tyX4 tyX4_ok hown (hU _ u_190) (hU _ u_191) (hU _ u_125) hK.1 hP hD hS hA rfl df_X4 (Nat.le_of_ble_eq_true rfl) (Nat.le_of_ble_eq_true rfl) dX11_init_42 (fun q_4 H hP hD hS => ?_)
  have hP : va_P G vwCl [(h0, .inr (10, [.ref q_1, .int 0, .int (-1), .ref q_2, .null, .null, .int 0, .null, .null])), (q_1, .inl (cy 0, 400, .inl (fun _ => 0))), (q_3, .inl (cy 4, 56, .inr (.inr (.inr (.inr (fun _ => none)))))), (q_2, .inr (0, [.ref q_3, .int 0, .int 0])), (q_4, .inr (4, [.int 0, .int 0, .int 0, .null]))] H := hP
  have hD : va_D A [(h0, .inr (10, [.ref q_1, .int 0, .int (-1), .ref q_2, .null, .null, .int 0, .null, .null])), (q_1, .inl (cy 0, 400, .inl (fun _ => 0))), (q_3, .inl (cy 4, 56, .inr (.inr (.inr (.inr (fun _ => none)))))), (q_2, .inr (0, [.ref q_3, .int 0, .int 0])), (q_4, .inr (4, [.int 0, .int 0, .int 0, .null]))] := hD
  refine W.widen (k := 4) (n := 463) (Nat.le_of_ble_eq_true rfl) (Nat.le_of_ble_eq_true rfl) ?_
  refine lv_dup hx hb dX11_init_45 rfl ?_
  refine kt_callI (wc := [(q_4, .inr (4, [.int 0, .int 0, .int 0, .null]))]) (wr := [(h0, .inr (10, [.ref q_1, .int 0, .int (-1), .ref q_2, .null, .null, .int 0, .null, .null])), (q_1, .inl (cy 0, 400, .inl (fun _ => 0))), (q_3, .inl (cy 4, 56, .inr (.inr (.inr (.inr (fun _ => none)))))), (q_2, .inr (0, [.ref q_3, .int 0, .int 0]))]) (As := []) (rest := [.ref q_4, .ref h0]) (c_X4_init l G cy q_4) m_X4_init u_192 hx hb hml hown hU hl.1 hK hP hD hS hA dX11_init_46 [4] [0, 1, 2, 3] rfl rfl rfl rfl rfl rfl (Nat.le_of_ble_eq_true rfl) (fun v9 w9 H locs hw hP hD hS => ?_)
  obtain ⟨x_5, rfl, rfl⟩ := hw
  have hP : va_P G vwCl [(h0, .inr (10, [.ref q_1, .int 0, .int (-1), .ref q_2, .null, .null, .int 0, .null, .null])), (q_1, .inl (cy 0, 400, .inl (fun _ => 0))), (q_3, .inl (cy 4, 56, .inr (.inr (.inr (.inr (fun _ => none)))))), (q_2, .inr (0, [.ref q_3, .int 0, .int 0])), (q_4, .inr (4, [.int 0, .int 0, .int (-1), .ref x_5])), (x_5, .inl (cy 1, 6, .inl (fun _ => 0)))] H := hP
  have hD : va_D A [(h0, .inr (10, [.ref q_1, .int 0, .int (-1), .ref q_2, .null, .null, .int 0, .null, .null])), (q_1, .inl (cy 0, 400, .inl (fun _ => 0))), (q_3, .inl (cy 4, 56, .inr (.inr (.inr (.inr (fun _ => none)))))), (q_2, .inr (0, [.ref q_3, .int 0, .int 0])), (q_4, .inr (4, [.int 0, .int 0, .int (-1), .ref x_5])), (x_5, .inl (cy 1, 6, .inl (fun _ => 0)))] := hD
  refine W.eq (g2 := F0 m 49 ls [.ref q_4, .ref h0]) rfl ?_
  refine W.widen (k := 5) (n := 469) (Nat.le_of_ble_eq_true rfl) (Nat.le_of_ble_eq_true rfl) ?_
  refine va_put (D := G) (ci := 10) (v := .ref q_4) (ty := .object "PlaneProof$Graph") (C := RX11) (T := TX11) (N := 9) hx hb hU in_X11 tyX11 tyX11_ok nmX11 hown hK.1 hP hD hS 0 rfl rfl 4 (by decide) (hU _ u_254) (fun _ h9 => h9) rfl (by decide +kernel) rfl rfl (Nat.le_of_ble_eq_true rfl) dX11_init_49 (fun H locs hP hD hS => ?_)
  have hP : va_P G vwCl [(h0, .inr (10, [.ref q_1, .int 0, .int (-1), .ref q_2, .ref q_4, .null, .int 0, .null, .null])), (q_1, .inl (cy 0, 400, .inl (fun _ => 0))), (q_3, .inl (cy 4, 56, .inr (.inr (.inr (.inr (fun _ => none)))))), (q_2, .inr (0, [.ref q_3, .int 0, .int 0])), (q_4, .inr (4, [.int 0, .int 0, .int (-1), .ref x_5])), (x_5, .inl (cy 1, 6, .inl (fun _ => 0)))] H := hP
  have hD : va_D A [(h0, .inr (10, [.ref q_1, .int 0, .int (-1), .ref q_2, .ref q_4, .null, .int 0, .null, .null])), (q_1, .inl (cy 0, 400, .inl (fun _ => 0))), (q_3, .inl (cy 4, 56, .inr (.inr (.inr (.inr (fun _ => none)))))), (q_2, .inr (0, [.ref q_3, .int 0, .int 0])), (q_4, .inr (4, [.int 0, .int 0, .int (-1), .ref x_5])), (x_5, .inl (cy 1, 6, .inl (fun _ => 0)))] := hD
  refine lv_aload_n hx hb dX11_init_52 rfl (lv_at hl 0 rfl) ?_
  refine lv_bipush (v := 7) hx hb dX11_init_53 (by decide) ?_
  refine lx_newq (C := RX2) (N' := 7) hx hb hown hU u_215 hK.2.2 hK hP hD hS hA 5 rfl (by decide) (by decide +kernel) (Nat.le_of_ble_eq_true rfl) (Nat.le_of_ble_eq_true rfl) (Nat.le_of_ble_eq_true rfl) dX11_init_55 (fun q_6 H hP hD hS => ?_)
  have hP : va_P G vwCl [(h0, .inr (10, [.ref q_1, .int 0, .int (-1), .ref q_2, .ref q_4, .null, .int 0, .null, .null])), (q_1, .inl (cy 0, 400, .inl (fun _ => 0))), (q_3, .inl (cy 4, 56, .inr (.inr (.inr (.inr (fun _ => none)))))), (q_2, .inr (0, [.ref q_3, .int 0, .int 0])), (q_4, .inr (4, [.int 0, .int 0, .int (-1), .ref x_5])), (x_5, .inl (cy 1, 6, .inl (fun _ => 0))), (q_6, .inl (cy 5, 7, .inr (.inr (.inr (.inr (fun _ => none))))))] H := hP
  have hD : va_D A [(h0, .inr (10, [.ref q_1, .int 0, .int (-1), .ref q_2, .ref q_4, .null, .int 0, .null, .null])), (q_1, .inl (cy 0, 400, .inl (fun _ => 0))), (q_3, .inl (cy 4, 56, .inr (.inr (.inr (.inr (fun _ => none)))))), (q_2, .inr (0, [.ref q_3, .int 0, .int 0])), (q_4, .inr (4, [.int 0, .int 0, .int (-1), .ref x_5])), (x_5, .inl (cy 1, 6, .inl (fun _ => 0))), (q_6, .inl (cy 5, 7, .inr (.inr (.inr (.inr (fun _ => none))))))] := hD
  refine W.widen (k := 6) (n := 476) (Nat.le_of_ble_eq_true rfl) (Nat.le_of_ble_eq_true rfl) ?_
  refine va_putF (D := G) (ci := 10) (v := .ref q_6) (ty := .array (.object "PlaneProof$Closure")) (C := RX11) (T := TX11) (N := 9) hx hb hU in_X11 tyX11 tyX11_ok nmX11 hown hK.1 hP hD hS 0 rfl rfl 5 (by decide) (hU _ u_255) (fun _ h9 => h9) rfl hin rfl (by decide +kernel) rfl rfl (Nat.le_of_ble_eq_true rfl) dX11_init_58 (fun H locs hP hD hS => ?_)
  have hP : va_P G vwCl [(h0, .inr (10, [.ref q_1, .int 0, .int (-1), .ref q_2, .ref q_4, .ref q_6, .int 0, .null, .null])), (q_1, .inl (cy 0, 400, .inl (fun _ => 0))), (q_3, .inl (cy 4, 56, .inr (.inr (.inr (.inr (fun _ => none)))))), (q_2, .inr (0, [.ref q_3, .int 0, .int 0])), (q_4, .inr (4, [.int 0, .int 0, .int (-1), .ref x_5])), (x_5, .inl (cy 1, 6, .inl (fun _ => 0))), (q_6, .inl (cy 5, 7, .inr (.inr (.inr (.inr (fun _ => none))))))] H := hP
  have hD : va_D A [(h0, .inr (10, [.ref q_1, .int 0, .int (-1), .ref q_2, .ref q_4, .ref q_6, .int 0, .null, .null])), (q_1, .inl (cy 0, 400, .inl (fun _ => 0))), (q_3, .inl (cy 4, 56, .inr (.inr (.inr (.inr (fun _ => none)))))), (q_2, .inr (0, [.ref q_3, .int 0, .int 0])), (q_4, .inr (4, [.int 0, .int 0, .int (-1), .ref x_5])), (x_5, .inl (cy 1, 6, .inl (fun _ => 0))), (q_6, .inl (cy 5, 7, .inr (.inr (.inr (.inr (fun _ => none))))))] := hD
  refine lv_aload_n hx hb dX11_init_61 rfl (lv_at hl 0 rfl) ?_
  refine lv_bipush (v := (-2)) hx hb dX11_init_62 (by decide) ?_
  refine va_put (D := G) (ci := 10) (v := .int (-2)) (ty := .int) (C := RX11) (T := TX11) (N := 9) hx hb hU in_X11 tyX11 tyX11_ok nmX11 hown hK.1 hP hD hS 0 rfl rfl 6 (by decide) (hU _ u_256) (fun _ h9 => h9) rfl (by decide +kernel) rfl rfl (Nat.le_of_ble_eq_true rfl) dX11_init_64 (fun H locs hP hD hS => ?_)
  have hP : va_P G vwCl [(h0, .inr (10, [.ref q_1, .int 0, .int (-1), .ref q_2, .ref q_4, .ref q_6, .int (-2), .null, .null])), (q_1, .inl (cy 0, 400, .inl (fun _ => 0))), (q_3, .inl (cy 4, 56, .inr (.inr (.inr (.inr (fun _ => none)))))), (q_2, .inr (0, [.ref q_3, .int 0, .int 0])), (q_4, .inr (4, [.int 0, .int 0, .int (-1), .ref x_5])), (x_5, .inl (cy 1, 6, .inl (fun _ => 0))), (q_6, .inl (cy 5, 7, .inr (.inr (.inr (.inr (fun _ => none))))))] H := hP
  have hD : va_D A [(h0, .inr (10, [.ref q_1, .int 0, .int (-1), .ref q_2, .ref q_4, .ref q_6, .int (-2), .null, .null])), (q_1, .inl (cy 0, 400, .inl (fun _ => 0))), (q_3, .inl (cy 4, 56, .inr (.inr (.inr (.inr (fun _ => none)))))), (q_2, .inr (0, [.ref q_3, .int 0, .int 0])), (q_4, .inr (4, [.int 0, .int 0, .int (-1), .ref x_5])), (x_5, .inl (cy 1, 6, .inl (fun _ => 0))), (q_6, .inl (cy 5, 7, .inr (.inr (.inr (.inr (fun _ => none))))))] := hD
  refine lv_aload_n hx hb dX11_init_67 rfl (lv_at hl 0 rfl) ?_
  refine va_new (ci := 7) (fs := [.null, .int 0, .int 0]) (C := RX7) (T := TX7) (N := 3) hx hb hU in_X7 tyX7 tyX7_ok hown (hU _ u_217) (hU _ u_218) (hU _ u_126) hK.1 hP hD hS hA rfl df_X7 (Nat.le_of_ble_eq_true rfl) (Nat.le_of_ble_eq_true rfl) dX11_init_68 (fun q_7 H hP hD hS => ?_)
  have hP : va_P G vwCl [(h0, .inr (10, [.ref q_1, .int 0, .int (-1), .ref q_2, .ref q_4, .ref q_6, .int (-2), .null, .null])), (q_1, .inl (cy 0, 400, .inl (fun _ => 0))), (q_3, .inl (cy 4, 56, .inr (.inr (.inr (.inr (fun _ => none)))))), (q_2, .inr (0, [.ref q_3, .int 0, .int 0])), (q_4, .inr (4, [.int 0, .int 0, .int (-1), .ref x_5])), (x_5, .inl (cy 1, 6, .inl (fun _ => 0))), (q_6, .inl (cy 5, 7, .inr (.inr (.inr (.inr (fun _ => none)))))), (q_7, .inr (7, [.null, .int 0, .int 0]))] H := hP
  have hD : va_D A [(h0, .inr (10, [.ref q_1, .int 0, .int (-1), .ref q_2, .ref q_4, .ref q_6, .int (-2), .null, .null])), (q_1, .inl (cy 0, 400, .inl (fun _ => 0))), (q_3, .inl (cy 4, 56, .inr (.inr (.inr (.inr (fun _ => none)))))), (q_2, .inr (0, [.ref q_3, .int 0, .int 0])), (q_4, .inr (4, [.int 0, .int 0, .int (-1), .ref x_5])), (x_5, .inl (cy 1, 6, .inl (fun _ => 0))), (q_6, .inl (cy 5, 7, .inr (.inr (.inr (.inr (fun _ => none)))))), (q_7, .inr (7, [.null, .int 0, .int 0]))] := hD
  refine W.widen (k := 7) (n := 479) (Nat.le_of_ble_eq_true rfl) (Nat.le_of_ble_eq_true rfl) ?_
  refine lv_dup hx hb dX11_init_71 rfl ?_
  refine kt_callI (wc := [(q_7, .inr (7, [.null, .int 0, .int 0]))]) (wr := [(h0, .inr (10, [.ref q_1, .int 0, .int (-1), .ref q_2, .ref q_4, .ref q_6, .int (-2), .null, .null])), (q_1, .inl (cy 0, 400, .inl (fun _ => 0))), (q_3, .inl (cy 4, 56, .inr (.inr (.inr (.inr (fun _ => none)))))), (q_2, .inr (0, [.ref q_3, .int 0, .int 0])), (q_4, .inr (4, [.int 0, .int 0, .int (-1), .ref x_5])), (x_5, .inl (cy 1, 6, .inl (fun _ => 0))), (q_6, .inl (cy 5, 7, .inr (.inr (.inr (.inr (fun _ => none))))))]) (As := []) (rest := [.ref q_7, .ref h0]) (c_X7_init l G cy q_7) m_X7_init u_219 hx hb hml hown hU hl.1 hK hP hD hS hA dX11_init_72 [7] [0, 1, 2, 3, 4, 5, 6] rfl rfl rfl rfl rfl rfl (Nat.le_of_ble_eq_true rfl) (fun v9 w9 H locs hw hP hD hS => ?_)
  obtain ⟨x_8, rfl, rfl⟩ := hw
  have hP : va_P G vwCl [(h0, .inr (10, [.ref q_1, .int 0, .int (-1), .ref q_2, .ref q_4, .ref q_6, .int (-2), .null, .null])), (q_1, .inl (cy 0, 400, .inl (fun _ => 0))), (q_3, .inl (cy 4, 56, .inr (.inr (.inr (.inr (fun _ => none)))))), (q_2, .inr (0, [.ref q_3, .int 0, .int 0])), (q_4, .inr (4, [.int 0, .int 0, .int (-1), .ref x_5])), (x_5, .inl (cy 1, 6, .inl (fun _ => 0))), (q_6, .inl (cy 5, 7, .inr (.inr (.inr (.inr (fun _ => none)))))), (q_7, .inr (7, [.ref x_8, .int 0, .int 0])), (x_8, .inl (cy 0, 400, .inl (fun _ => 0)))] H := hP
  have hD : va_D A [(h0, .inr (10, [.ref q_1, .int 0, .int (-1), .ref q_2, .ref q_4, .ref q_6, .int (-2), .null, .null])), (q_1, .inl (cy 0, 400, .inl (fun _ => 0))), (q_3, .inl (cy 4, 56, .inr (.inr (.inr (.inr (fun _ => none)))))), (q_2, .inr (0, [.ref q_3, .int 0, .int 0])), (q_4, .inr (4, [.int 0, .int 0, .int (-1), .ref x_5])), (x_5, .inl (cy 1, 6, .inl (fun _ => 0))), (q_6, .inl (cy 5, 7, .inr (.inr (.inr (.inr (fun _ => none)))))), (q_7, .inr (7, [.ref x_8, .int 0, .int 0])), (x_8, .inl (cy 0, 400, .inl (fun _ => 0)))] := hD
  refine W.eq (g2 := F0 m 75 ls [.ref q_7, .ref h0]) rfl ?_
  refine W.widen (k := 8) (n := 879) (Nat.le_of_ble_eq_true rfl) (Nat.le_of_ble_eq_true rfl) ?_
  refine va_putF (D := G) (ci := 10) (v := .ref q_7) (ty := .object "PlaneProof$Scribe") (C := RX11) (T := TX11) (N := 9) hx hb hU in_X11 tyX11 tyX11_ok nmX11 hown hK.1 hP hD hS 0 rfl rfl 7 (by decide) (hU _ u_257) (fun _ h9 => h9) rfl hin rfl (by decide +kernel) rfl rfl (Nat.le_of_ble_eq_true rfl) dX11_init_75 (fun H locs hP hD hS => ?_)
  have hP : va_P G vwCl [(h0, .inr (10, [.ref q_1, .int 0, .int (-1), .ref q_2, .ref q_4, .ref q_6, .int (-2), .ref q_7, .null])), (q_1, .inl (cy 0, 400, .inl (fun _ => 0))), (q_3, .inl (cy 4, 56, .inr (.inr (.inr (.inr (fun _ => none)))))), (q_2, .inr (0, [.ref q_3, .int 0, .int 0])), (q_4, .inr (4, [.int 0, .int 0, .int (-1), .ref x_5])), (x_5, .inl (cy 1, 6, .inl (fun _ => 0))), (q_6, .inl (cy 5, 7, .inr (.inr (.inr (.inr (fun _ => none)))))), (q_7, .inr (7, [.ref x_8, .int 0, .int 0])), (x_8, .inl (cy 0, 400, .inl (fun _ => 0)))] H := hP
  have hD : va_D A [(h0, .inr (10, [.ref q_1, .int 0, .int (-1), .ref q_2, .ref q_4, .ref q_6, .int (-2), .ref q_7, .null])), (q_1, .inl (cy 0, 400, .inl (fun _ => 0))), (q_3, .inl (cy 4, 56, .inr (.inr (.inr (.inr (fun _ => none)))))), (q_2, .inr (0, [.ref q_3, .int 0, .int 0])), (q_4, .inr (4, [.int 0, .int 0, .int (-1), .ref x_5])), (x_5, .inl (cy 1, 6, .inl (fun _ => 0))), (q_6, .inl (cy 5, 7, .inr (.inr (.inr (.inr (fun _ => none)))))), (q_7, .inr (7, [.ref x_8, .int 0, .int 0])), (x_8, .inl (cy 0, 400, .inl (fun _ => 0)))] := hD
  refine lv_aload_n hx hb dX11_init_78 rfl (lv_at hl 0 rfl) ?_
  refine va_new (ci := 3) (fs := [.null, .null, .int 0]) (C := RX3) (T := TX3) (N := 3) hx hb hU in_X3 tyX3 tyX3_ok hown (hU _ u_234) (hU _ u_235) (hU _ u_127) hK.1 hP hD hS hA rfl df_X3 (Nat.le_of_ble_eq_true rfl) (Nat.le_of_ble_eq_true rfl) dX11_init_79 (fun q_9 H hP hD hS => ?_)
  have hP : va_P G vwCl [(h0, .inr (10, [.ref q_1, .int 0, .int (-1), .ref q_2, .ref q_4, .ref q_6, .int (-2), .ref q_7, .null])), (q_1, .inl (cy 0, 400, .inl (fun _ => 0))), (q_3, .inl (cy 4, 56, .inr (.inr (.inr (.inr (fun _ => none)))))), (q_2, .inr (0, [.ref q_3, .int 0, .int 0])), (q_4, .inr (4, [.int 0, .int 0, .int (-1), .ref x_5])), (x_5, .inl (cy 1, 6, .inl (fun _ => 0))), (q_6, .inl (cy 5, 7, .inr (.inr (.inr (.inr (fun _ => none)))))), (q_7, .inr (7, [.ref x_8, .int 0, .int 0])), (x_8, .inl (cy 0, 400, .inl (fun _ => 0))), (q_9, .inr (3, [.null, .null, .int 0]))] H := hP
  have hD : va_D A [(h0, .inr (10, [.ref q_1, .int 0, .int (-1), .ref q_2, .ref q_4, .ref q_6, .int (-2), .ref q_7, .null])), (q_1, .inl (cy 0, 400, .inl (fun _ => 0))), (q_3, .inl (cy 4, 56, .inr (.inr (.inr (.inr (fun _ => none)))))), (q_2, .inr (0, [.ref q_3, .int 0, .int 0])), (q_4, .inr (4, [.int 0, .int 0, .int (-1), .ref x_5])), (x_5, .inl (cy 1, 6, .inl (fun _ => 0))), (q_6, .inl (cy 5, 7, .inr (.inr (.inr (.inr (fun _ => none)))))), (q_7, .inr (7, [.ref x_8, .int 0, .int 0])), (x_8, .inl (cy 0, 400, .inl (fun _ => 0))), (q_9, .inr (3, [.null, .null, .int 0]))] := hD
  refine W.widen (k := 9) (n := 882) (Nat.le_of_ble_eq_true rfl) (Nat.le_of_ble_eq_true rfl) ?_
  refine lv_dup hx hb dX11_init_82 rfl ?_
  refine lv_aload_n hx hb dX11_init_83 rfl (lv_at hl 0 rfl) ?_
  refine va_get (D := G) (ci := 10) (v := .ref q_7) (C := RX11) (T := TX11) (N := 9) hx hb hU in_X11 hown hK.1 hP 0 rfl rfl 7 (by decide) (hU _ u_257) (fun _ h9 => h9) rfl dX11_init_84 ?_
  refine kt_callI (wc := [(q_9, .inr (3, [.null, .null, .int 0]))]) (wr := [(h0, .inr (10, [.ref q_1, .int 0, .int (-1), .ref q_2, .ref q_4, .ref q_6, .int (-2), .ref q_7, .null])), (q_1, .inl (cy 0, 400, .inl (fun _ => 0))), (q_3, .inl (cy 4, 56, .inr (.inr (.inr (.inr (fun _ => none)))))), (q_2, .inr (0, [.ref q_3, .int 0, .int 0])), (q_4, .inr (4, [.int 0, .int 0, .int (-1), .ref x_5])), (x_5, .inl (cy 1, 6, .inl (fun _ => 0))), (q_6, .inl (cy 5, 7, .inr (.inr (.inr (.inr (fun _ => none)))))), (q_7, .inr (7, [.ref x_8, .int 0, .int 0])), (x_8, .inl (cy 0, 400, .inl (fun _ => 0)))]) (As := [.ref q_7]) (rest := [.ref q_9, .ref h0]) (c_X3_init l G cy q_9 q_7) m_X3_init u_236 hx hb hml hown hU hl.1 hK hP hD hS hA dX11_init_87 [9] [0, 1, 2, 3, 4, 5, 6, 7, 8] rfl rfl rfl rfl rfl rfl (Nat.le_of_ble_eq_true rfl) (fun v9 w9 H locs hw hP hD hS => ?_)
  obtain ⟨x_10, rfl, rfl⟩ := hw
  have hP : va_P G vwCl [(h0, .inr (10, [.ref q_1, .int 0, .int (-1), .ref q_2, .ref q_4, .ref q_6, .int (-2), .ref q_7, .null])), (q_1, .inl (cy 0, 400, .inl (fun _ => 0))), (q_3, .inl (cy 4, 56, .inr (.inr (.inr (.inr (fun _ => none)))))), (q_2, .inr (0, [.ref q_3, .int 0, .int 0])), (q_4, .inr (4, [.int 0, .int 0, .int (-1), .ref x_5])), (x_5, .inl (cy 1, 6, .inl (fun _ => 0))), (q_6, .inl (cy 5, 7, .inr (.inr (.inr (.inr (fun _ => none)))))), (q_7, .inr (7, [.ref x_8, .int 0, .int 0])), (x_8, .inl (cy 0, 400, .inl (fun _ => 0))), (q_9, .inr (3, [.ref q_7, .ref x_10, .int 0])), (x_10, .inl (cy 1, 56, .inl (fun _ => 0)))] H := hP
  have hD : va_D A [(h0, .inr (10, [.ref q_1, .int 0, .int (-1), .ref q_2, .ref q_4, .ref q_6, .int (-2), .ref q_7, .null])), (q_1, .inl (cy 0, 400, .inl (fun _ => 0))), (q_3, .inl (cy 4, 56, .inr (.inr (.inr (.inr (fun _ => none)))))), (q_2, .inr (0, [.ref q_3, .int 0, .int 0])), (q_4, .inr (4, [.int 0, .int 0, .int (-1), .ref x_5])), (x_5, .inl (cy 1, 6, .inl (fun _ => 0))), (q_6, .inl (cy 5, 7, .inr (.inr (.inr (.inr (fun _ => none)))))), (q_7, .inr (7, [.ref x_8, .int 0, .int 0])), (x_8, .inl (cy 0, 400, .inl (fun _ => 0))), (q_9, .inr (3, [.ref q_7, .ref x_10, .int 0])), (x_10, .inl (cy 1, 56, .inl (fun _ => 0)))] := hD
  refine W.eq (g2 := F0 m 90 ls [.ref q_9, .ref h0]) rfl ?_
  refine W.widen (k := 10) (n := 938) (Nat.le_of_ble_eq_true rfl) (Nat.le_of_ble_eq_true rfl) ?_
  refine va_putF (D := G) (ci := 10) (v := .ref q_9) (ty := .object "PlaneProof$Composer") (C := RX11) (T := TX11) (N := 9) hx hb hU in_X11 tyX11 tyX11_ok nmX11 hown hK.1 hP hD hS 0 rfl rfl 8 (by decide) (hU _ u_258) (fun _ h9 => h9) rfl hin rfl (by decide +kernel) rfl rfl (Nat.le_of_ble_eq_true rfl) dX11_init_90 (fun H locs hP hD hS => ?_)
  have hP : va_P G vwCl [(h0, .inr (10, [.ref q_1, .int 0, .int (-1), .ref q_2, .ref q_4, .ref q_6, .int (-2), .ref q_7, .ref q_9])), (q_1, .inl (cy 0, 400, .inl (fun _ => 0))), (q_3, .inl (cy 4, 56, .inr (.inr (.inr (.inr (fun _ => none)))))), (q_2, .inr (0, [.ref q_3, .int 0, .int 0])), (q_4, .inr (4, [.int 0, .int 0, .int (-1), .ref x_5])), (x_5, .inl (cy 1, 6, .inl (fun _ => 0))), (q_6, .inl (cy 5, 7, .inr (.inr (.inr (.inr (fun _ => none)))))), (q_7, .inr (7, [.ref x_8, .int 0, .int 0])), (x_8, .inl (cy 0, 400, .inl (fun _ => 0))), (q_9, .inr (3, [.ref q_7, .ref x_10, .int 0])), (x_10, .inl (cy 1, 56, .inl (fun _ => 0)))] H := hP
  have hD : va_D A [(h0, .inr (10, [.ref q_1, .int 0, .int (-1), .ref q_2, .ref q_4, .ref q_6, .int (-2), .ref q_7, .ref q_9])), (q_1, .inl (cy 0, 400, .inl (fun _ => 0))), (q_3, .inl (cy 4, 56, .inr (.inr (.inr (.inr (fun _ => none)))))), (q_2, .inr (0, [.ref q_3, .int 0, .int 0])), (q_4, .inr (4, [.int 0, .int 0, .int (-1), .ref x_5])), (x_5, .inl (cy 1, 6, .inl (fun _ => 0))), (q_6, .inl (cy 5, 7, .inr (.inr (.inr (.inr (fun _ => none)))))), (q_7, .inr (7, [.ref x_8, .int 0, .int 0])), (x_8, .inl (cy 0, 400, .inl (fun _ => 0))), (q_9, .inr (3, [.ref q_7, .ref x_10, .int 0])), (x_10, .inl (cy 1, 56, .inl (fun _ => 0)))] := hD
  exact kt_vret hx hb hr hlocks hP hD hS dX11_init_93 [0, 1, 3, 2, 4, 5, 6, 7, 8, 9, 10] rfl rfl rfl rfl ⟨q_1, q_2, q_4, q_6, q_7, q_9, q_3, x_5, x_8, x_10, rfl, rfl⟩
