set_option maxHeartbeats 4000000 in
set_option maxRecDepth 100000 in
theorem c_X8_init (l : Launch) (G : va_G) (cy : Nat → ClassId) (h0 : Nat) (t0 : Nat) : Kt l G cy yX8_init cX8_init 3 none ({ frames := 10, cells := 0, slots := 0, locals := 200 } : Room) [.ref h0, .ref t0, .int 0] [(h0, .inr (8, [.null, .int 0, .int 0, .int 0, .int 0, .int 0]))] (fun (v : Option Value) (w1 : va_W) => v = none ∧ w1 = [(h0, .inr (8, [.ref t0, .int 0, .int 0, .int 0, .int 0, .int (-1)]))]) := by
  refine kt_ofW (by decide) (Nat.le_of_ble_eq_true rfl) ?_
  intro p e s m below meth c A ls hx hb hr hU hown hlocks hml hin hP hK hD hA hS hl
  have hown : s.vm.findClass RX8 = some m.cls := hown
  have hl : lv_has ls 3 [(0, .ref h0), (1, .ref t0), (2, .int 0)] := hl
  refine lv_aload_n hx hb dX8_init_0 rfl (lv_at hl 0 rfl) ?_
  refine W.objInit hx hb hown (hU _ u_493) (hU _ u_157) (hU _ u_158) rfl (by rw [hml]; exact hl.1) rfl dX8_init_1 (Nat.le_of_ble_eq_true rfl) (Nat.le_of_ble_eq_true rfl) ?_
  refine W.eq (g2 := F0 m 4 ls []) rfl ?_
  refine lv_aload_n hx hb dX8_init_4 rfl (lv_at hl 0 rfl) ?_
  refine lv_aload_n hx hb dX8_init_5 rfl (lv_at hl 1 rfl) ?_
  refine va_putF (D := G) (ci := 8) (v := .ref t0) (ty := .array (.byte)) (C := RX8) (T := TX8) (N := 6) hx hb hU in_X8 tyX8 tyX8_ok nmX8 hown hK.1 hP hD hS 0 rfl rfl 0 (by decide) (hU _ u_494) (fun _ h9 => h9) rfl hin rfl (by decide +kernel) rfl rfl (Nat.le_of_ble_eq_true rfl) dX8_init_6 (fun H locs hP hD hS => ?_)
  have hP : va_P G vwCl [(h0, .inr (8, [.ref t0, .int 0, .int 0, .int 0, .int 0, .int 0]))] H := hP
  have hD : va_D A [(h0, .inr (8, [.ref t0, .int 0, .int 0, .int 0, .int 0, .int 0]))] := hD
  refine lv_aload_n hx hb dX8_init_9 rfl (lv_at hl 0 rfl) ?_
  refine lv_iload_n hx hb dX8_init_10 rfl (lv_at hl 2 rfl) ?_
  refine va_putF (D := G) (ci := 8) (v := .int 0) (ty := .int) (C := RX8) (T := TX8) (N := 6) hx hb hU in_X8 tyX8 tyX8_ok nmX8 hown hK.1 hP hD hS 0 rfl rfl 1 (by decide) (hU _ u_495) (fun _ h9 => h9) rfl hin rfl (by decide +kernel) rfl rfl (Nat.le_of_ble_eq_true rfl) dX8_init_11 (fun H locs hP hD hS => ?_)
  have hP : va_P G vwCl [(h0, .inr (8, [.ref t0, .int 0, .int 0, .int 0, .int 0, .int 0]))] H := hP
  have hD : va_D A [(h0, .inr (8, [.ref t0, .int 0, .int 0, .int 0, .int 0, .int 0]))] := hD
  refine lv_aload_n hx hb dX8_init_14 rfl (lv_at hl 0 rfl) ?_
  refine lv_iconst (v := 0) hx hb dX8_init_15 (by decide) ?_
  refine va_put (D := G) (ci := 8) (v := .int 0) (ty := .int) (C := RX8) (T := TX8) (N := 6) hx hb hU in_X8 tyX8 tyX8_ok nmX8 hown hK.1 hP hD hS 0 rfl rfl 2 (by decide) (hU _ u_496) (fun _ h9 => h9) rfl (by decide +kernel) rfl rfl (Nat.le_of_ble_eq_true rfl) dX8_init_16 (fun H locs hP hD hS => ?_)
  have hP : va_P G vwCl [(h0, .inr (8, [.ref t0, .int 0, .int 0, .int 0, .int 0, .int 0]))] H := hP
  have hD : va_D A [(h0, .inr (8, [.ref t0, .int 0, .int 0, .int 0, .int 0, .int 0]))] := hD
  refine lv_aload_n hx hb dX8_init_19 rfl (lv_at hl 0 rfl) ?_
  refine lv_iconst (v := 0) hx hb dX8_init_20 (by decide) ?_
  refine va_put (D := G) (ci := 8) (v := .int 0) (ty := .int) (C := RX8) (T := TX8) (N := 6) hx hb hU in_X8 tyX8 tyX8_ok nmX8 hown hK.1 hP hD hS 0 rfl rfl 3 (by decide) (hU _ u_498) (fun _ h9 => h9) rfl (by decide +kernel) rfl rfl (Nat.le_of_ble_eq_true rfl) dX8_init_21 (fun H locs hP hD hS => ?_)
  have hP : va_P G vwCl [(h0, .inr (8, [.ref t0, .int 0, .int 0, .int 0, .int 0, .int 0]))] H := hP
  have hD : va_D A [(h0, .inr (8, [.ref t0, .int 0, .int 0, .int 0, .int 0, .int 0]))] := hD
  refine lv_aload_n hx hb dX8_init_24 rfl (lv_at hl 0 rfl) ?_
  refine lv_iconst (v := 0) hx hb dX8_init_25 (by decide) ?_
  refine va_put (D := G) (ci := 8) (v := .int 0) (ty := .int) (C := RX8) (T := TX8) (N := 6) hx hb hU in_X8 tyX8 tyX8_ok nmX8 hown hK.1 hP hD hS 0 rfl rfl 4 (by decide) (hU _ u_499) (fun _ h9 => h9) rfl (by decide +kernel) rfl rfl (Nat.le_of_ble_eq_true rfl) dX8_init_26 (fun H locs hP hD hS => ?_)
  have hP : va_P G vwCl [(h0, .inr (8, [.ref t0, .int 0, .int 0, .int 0, .int 0, .int 0]))] H := hP
  have hD : va_D A [(h0, .inr (8, [.ref t0, .int 0, .int 0, .int 0, .int 0, .int 0]))] := hD
  refine lv_aload_n hx hb dX8_init_29 rfl (lv_at hl 0 rfl) ?_
  refine lv_iconst (v := (-1)) hx hb dX8_init_30 (by decide) ?_
  refine va_put (D := G) (ci := 8) (v := .int (-1)) (ty := .int) (C := RX8) (T := TX8) (N := 6) hx hb hU in_X8 tyX8 tyX8_ok nmX8 hown hK.1 hP hD hS 0 rfl rfl 5 (by decide) (hU _ u_500) (fun _ h9 => h9) rfl (by decide +kernel) rfl rfl (Nat.le_of_ble_eq_true rfl) dX8_init_31 (fun H locs hP hD hS => ?_)
  have hP : va_P G vwCl [(h0, .inr (8, [.ref t0, .int 0, .int 0, .int 0, .int 0, .int (-1)]))] H := hP
  have hD : va_D A [(h0, .inr (8, [.ref t0, .int 0, .int 0, .int 0, .int 0, .int (-1)]))] := hD
  exact kt_vret hx hb hr hlocks hP hD hS dX8_init_34 [0] rfl rfl rfl rfl ⟨rfl, rfl⟩
set_option maxHeartbeats 4000000 in
set_option maxRecDepth 100000 in
theorem c_X8_kindAt (l : Launch) (G : va_G) (cy : Nat → ClassId) (h0 : Nat) (t0 : Nat) : Kt l G cy yX8_kindAt cX8_kindAt 3 (some .int) ({ frames := 10, cells := 0, slots := 0, locals := 200 } : Room) [.ref h0, .int 0] [(h0, .inr (8, [.ref t0, .int 0, .int 0, .int 0, .int 0, .int (-1)]))] (fun (v : Option Value) (w1 : va_W) => v = some (.int 0) ∧ w1 = [(h0, .inr (8, [.ref t0, .int 0, .int 0, .int 0, .int 0, .int (-1)]))]) := by
  refine kt_ofW (by decide) (Nat.le_of_ble_eq_true rfl) ?_
  intro p e s m below meth c A ls hx hb hr hU hown hlocks hml hin hP hK hD hA hS hl
  have hown : s.vm.findClass RX8 = some m.cls := hown
  have hl : lv_has ls 3 [(0, .ref h0), (1, .int 0)] := hl
  refine lv_iload_n hx hb dX8_kindAt_0 rfl (lv_at hl 1 rfl) ?_
  refine lv_if_lt (tgt := 21) hx hb dX8_kindAt_1 (by decide) (fun c9 => absurd c9 (by decide)) (fun _ => ?_)
  refine lv_iload_n hx hb dX8_kindAt_4 rfl (lv_at hl 1 rfl) ?_
  refine lv_aload_n hx hb dX8_kindAt_5 rfl (lv_at hl 0 rfl) ?_
  refine va_get (D := G) (ci := 8) (v := .int 0) (C := RX8) (T := TX8) (N := 6) hx hb hU in_X8 hown hK.1 hP 0 rfl rfl 1 (by decide) (hU _ u_495) (fun _ h9 => h9) rfl dX8_kindAt_6 ?_
  refine lv_icmp_ge (tgt := 21) hx hb dX8_kindAt_9 (by decide) (fun _ => ?_) (fun c9 => absurd (by decide) c9)
  refine lv_iconst (v := 0) hx hb dX8_kindAt_21 (by decide) ?_
  exact kt_iret hx hb hr hlocks hP hD hS dX8_kindAt_22 [0] rfl rfl rfl rfl ⟨rfl, rfl⟩
set_option maxHeartbeats 4000000 in
set_option maxRecDepth 100000 in
theorem c_X8_advance (l : Launch) (G : va_G) (cy : Nat → ClassId) (h0 : Nat) (t0 : Nat) : Kt l G cy yX8_advance cX8_advance 1 none ({ frames := 12, cells := 0, slots := 0, locals := 300 } : Room) [.ref h0] [(h0, .inr (8, [.ref t0, .int 0, .int 0, .int 0, .int 0, .int (-1)]))] (fun (v : Option Value) (w1 : va_W) => v = none ∧ w1 = [(h0, .inr (8, [.ref t0, .int 0, .int 0, .int 0, .int 0, .int (-1)]))]) := by
  refine kt_ofW (by decide) (Nat.le_of_ble_eq_true rfl) ?_
  intro p e s m below meth c A ls hx hb hr hU hown hlocks hml hin hP hK hD hA hS hl
  have hown : s.vm.findClass RX8 = some m.cls := hown
  have hl : lv_has ls 1 [(0, .ref h0)] := hl
  refine lv_aload_n hx hb dX8_advance_0 rfl (lv_at hl 0 rfl) ?_
  refine lv_aload_n hx hb dX8_advance_1 rfl (lv_at hl 0 rfl) ?_
  refine va_get (D := G) (ci := 8) (v := .int 0) (C := RX8) (T := TX8) (N := 6) hx hb hU in_X8 hown hK.1 hP 0 rfl rfl 3 (by decide) (hU _ u_498) (fun _ h9 => h9) rfl dX8_advance_2 ?_
  refine va_put (D := G) (ci := 8) (v := .int 0) (ty := .int) (C := RX8) (T := TX8) (N := 6) hx hb hU in_X8 tyX8 tyX8_ok nmX8 hown hK.1 hP hD hS 0 rfl rfl 2 (by decide) (hU _ u_496) (fun _ h9 => h9) rfl (by decide +kernel) rfl rfl (Nat.le_of_ble_eq_true rfl) dX8_advance_5 (fun H locs hP hD hS => ?_)
  have hP : va_P G vwCl [(h0, .inr (8, [.ref t0, .int 0, .int 0, .int 0, .int 0, .int (-1)]))] H := hP
  have hD : va_D A [(h0, .inr (8, [.ref t0, .int 0, .int 0, .int 0, .int 0, .int (-1)]))] := hD
  refine lv_aload_n hx hb dX8_advance_8 rfl (lv_at hl 0 rfl) ?_
  refine va_get (D := G) (ci := 8) (v := .int 0) (C := RX8) (T := TX8) (N := 6) hx hb hU in_X8 hown hK.1 hP 0 rfl rfl 2 (by decide) (hU _ u_496) (fun _ h9 => h9) rfl dX8_advance_9 ?_
  refine lv_aload_n hx hb dX8_advance_12 rfl (lv_at hl 0 rfl) ?_
  refine va_get (D := G) (ci := 8) (v := .int 0) (C := RX8) (T := TX8) (N := 6) hx hb hU in_X8 hown hK.1 hP 0 rfl rfl 1 (by decide) (hU _ u_495) (fun _ h9 => h9) rfl dX8_advance_13 ?_
  refine lv_icmp_ge (tgt := 44) hx hb dX8_advance_16 (by decide) (fun _ => ?_) (fun c9 => absurd (by decide) c9)
  refine lv_aload_n hx hb dX8_advance_44 rfl (lv_at hl 0 rfl) ?_
  refine lv_aload_n hx hb dX8_advance_45 rfl (lv_at hl 0 rfl) ?_
  refine lv_aload_n hx hb dX8_advance_46 rfl (lv_at hl 0 rfl) ?_
  refine va_get (D := G) (ci := 8) (v := .int 0) (C := RX8) (T := TX8) (N := 6) hx hb hU in_X8 hown hK.1 hP 0 rfl rfl 2 (by decide) (hU _ u_496) (fun _ h9 => h9) rfl dX8_advance_47 ?_
  refine kt_callV (wc := [(h0, .inr (8, [.ref t0, .int 0, .int 0, .int 0, .int 0, .int (-1)]))]) (wr := []) (As := [.int 0]) (rest := [.ref h0]) (c_X8_kindAt l G cy h0 t0) m_X8_kindAt u_571 hx hb hml hown hU hl.1 hK hP hD hS hA dX8_advance_50 [0] [] rfl rfl rfl rfl rfl rfl (Nat.le_of_ble_eq_true rfl) (ci := 8) rfl rfl rfl (fun v9 w9 H locs hw hP hD hS => ?_)
  obtain ⟨rfl, rfl⟩ := hw
  have hP : va_P G vwCl [(h0, .inr (8, [.ref t0, .int 0, .int 0, .int 0, .int 0, .int (-1)]))] H := hP
  have hD : va_D A [(h0, .inr (8, [.ref t0, .int 0, .int 0, .int 0, .int 0, .int (-1)]))] := hD
  refine W.eq (g2 := F0 m 53 ls [.int 0, .ref h0]) rfl ?_
  refine W.widen (k := 0) (n := 0) (Nat.le_of_ble_eq_true rfl) (Nat.le_of_ble_eq_true rfl) ?_
  refine va_put (D := G) (ci := 8) (v := .int 0) (ty := .int) (C := RX8) (T := TX8) (N := 6) hx hb hU in_X8 tyX8 tyX8_ok nmX8 hown hK.1 hP hD hS 0 rfl rfl 4 (by decide) (hU _ u_499) (fun _ h9 => h9) rfl (by decide +kernel) rfl rfl (Nat.le_of_ble_eq_true rfl) dX8_advance_53 (fun H locs hP hD hS => ?_)
  have hP : va_P G vwCl [(h0, .inr (8, [.ref t0, .int 0, .int 0, .int 0, .int 0, .int (-1)]))] H := hP
  have hD : va_D A [(h0, .inr (8, [.ref t0, .int 0, .int 0, .int 0, .int 0, .int (-1)]))] := hD
  refine lv_aload_n hx hb dX8_advance_56 rfl (lv_at hl 0 rfl) ?_
  refine lv_aload_n hx hb dX8_advance_57 rfl (lv_at hl 0 rfl) ?_
  refine va_get (D := G) (ci := 8) (v := .int 0) (C := RX8) (T := TX8) (N := 6) hx hb hU in_X8 hown hK.1 hP 0 rfl rfl 4 (by decide) (hU _ u_499) (fun _ h9 => h9) rfl dX8_advance_58 ?_
  refine lv_iconst (v := 4) hx hb dX8_advance_61 (by decide) ?_
  refine lv_icmp_ne (tgt := 74) hx hb dX8_advance_62 (by decide) (fun _ => ?_) (fun c9 => absurd c9 (by decide))
  refine lv_aload_n hx hb dX8_advance_74 rfl (lv_at hl 0 rfl) ?_
  refine va_get (D := G) (ci := 8) (v := .int 0) (C := RX8) (T := TX8) (N := 6) hx hb hU in_X8 hown hK.1 hP 0 rfl rfl 2 (by decide) (hU _ u_496) (fun _ h9 => h9) rfl dX8_advance_75 ?_
  refine va_put (D := G) (ci := 8) (v := .int 0) (ty := .int) (C := RX8) (T := TX8) (N := 6) hx hb hU in_X8 tyX8 tyX8_ok nmX8 hown hK.1 hP hD hS 0 rfl rfl 3 (by decide) (hU _ u_498) (fun _ h9 => h9) rfl (by decide +kernel) rfl rfl (Nat.le_of_ble_eq_true rfl) dX8_advance_78 (fun H locs hP hD hS => ?_)
  have hP : va_P G vwCl [(h0, .inr (8, [.ref t0, .int 0, .int 0, .int 0, .int 0, .int (-1)]))] H := hP
  have hD : va_D A [(h0, .inr (8, [.ref t0, .int 0, .int 0, .int 0, .int 0, .int (-1)]))] := hD
  refine lv_aload_n hx hb dX8_advance_81 rfl (lv_at hl 0 rfl) ?_
  refine va_get (D := G) (ci := 8) (v := .int 0) (C := RX8) (T := TX8) (N := 6) hx hb hU in_X8 hown hK.1 hP 0 rfl rfl 3 (by decide) (hU _ u_498) (fun _ h9 => h9) rfl dX8_advance_82 ?_
  refine lv_aload_n hx hb dX8_advance_85 rfl (lv_at hl 0 rfl) ?_
  refine va_get (D := G) (ci := 8) (v := .int 0) (C := RX8) (T := TX8) (N := 6) hx hb hU in_X8 hown hK.1 hP 0 rfl rfl 1 (by decide) (hU _ u_495) (fun _ h9 => h9) rfl dX8_advance_86 ?_
  refine lv_icmp_ge (tgt := 128) hx hb dX8_advance_89 (by decide) (fun _ => ?_) (fun c9 => absurd (by decide) c9)
  refine lv_aload_n hx hb dX8_advance_128 rfl (lv_at hl 0 rfl) ?_
  refine lv_aload_n hx hb dX8_advance_129 rfl (lv_at hl 0 rfl) ?_
  refine va_get (D := G) (ci := 8) (v := .int 0) (C := RX8) (T := TX8) (N := 6) hx hb hU in_X8 hown hK.1 hP 0 rfl rfl 4 (by decide) (hU _ u_499) (fun _ h9 => h9) rfl dX8_advance_130 ?_
  refine lv_iconst (v := 3) hx hb dX8_advance_133 (by decide) ?_
  refine lv_icmp_ne (tgt := 144) hx hb dX8_advance_134 (by decide) (fun _ => ?_) (fun c9 => absurd c9 (by decide))
  refine lv_iconst (v := (-1)) hx hb dX8_advance_144 (by decide) ?_
  refine va_put (D := G) (ci := 8) (v := .int (-1)) (ty := .int) (C := RX8) (T := TX8) (N := 6) hx hb hU in_X8 tyX8 tyX8_ok nmX8 hown hK.1 hP hD hS 0 rfl rfl 5 (by decide) (hU _ u_500) (fun _ h9 => h9) rfl (by decide +kernel) rfl rfl (Nat.le_of_ble_eq_true rfl) dX8_advance_145 (fun H locs hP hD hS => ?_)
  have hP : va_P G vwCl [(h0, .inr (8, [.ref t0, .int 0, .int 0, .int 0, .int 0, .int (-1)]))] H := hP
  have hD : va_D A [(h0, .inr (8, [.ref t0, .int 0, .int 0, .int 0, .int 0, .int (-1)]))] := hD
  exact kt_vret hx hb hr hlocks hP hD hS dX8_advance_148 [0] rfl rfl rfl rfl ⟨rfl, rfl⟩
set_option maxHeartbeats 4000000 in
set_option maxRecDepth 100000 in
theorem c_X8_isEnd (l : Launch) (G : va_G) (cy : Nat → ClassId) (h0 : Nat) (t0 : Nat) : Kt l G cy yX8_isEnd cX8_isEnd 1 (some .boolean) ({ frames := 10, cells := 0, slots := 0, locals := 200 } : Room) [.ref h0] [(h0, .inr (8, [.ref t0, .int 0, .int 0, .int 0, .int 0, .int (-1)]))] (fun (v : Option Value) (w1 : va_W) => v = some (.int 1) ∧ w1 = [(h0, .inr (8, [.ref t0, .int 0, .int 0, .int 0, .int 0, .int (-1)]))]) := by
  refine kt_ofW (by decide) (Nat.le_of_ble_eq_true rfl) ?_
  intro p e s m below meth c A ls hx hb hr hU hown hlocks hml hin hP hK hD hA hS hl
  have hown : s.vm.findClass RX8 = some m.cls := hown
  have hl : lv_has ls 1 [(0, .ref h0)] := hl
  refine lv_aload_n hx hb dX8_isEnd_0 rfl (lv_at hl 0 rfl) ?_
  refine va_get (D := G) (ci := 8) (v := .int 0) (C := RX8) (T := TX8) (N := 6) hx hb hU in_X8 hown hK.1 hP 0 rfl rfl 4 (by decide) (hU _ u_499) (fun _ h9 => h9) rfl dX8_isEnd_1 ?_
  refine lv_if_ne (tgt := 11) hx hb dX8_isEnd_4 (by decide) (fun c9 => absurd (by decide) c9) (fun _ => ?_)
  refine lv_iconst (v := 1) hx hb dX8_isEnd_7 (by decide) ?_
  refine lv_goto (tgt := 12) hx hb dX8_isEnd_8 (by decide) ?_
  exact kt_zret hx hb hr hlocks hP hD hS (by first | rfl | decide | exact rfl) dX8_isEnd_12 [0] rfl rfl rfl rfl ⟨rfl, rfl⟩
set_option maxHeartbeats 4000000 in
set_option maxRecDepth 100000 in
theorem c_X9_init_1 (l : Launch) (G : va_G) (cy : Nat → ClassId) (h0 : Nat) (s0 : Nat) : Kt l G cy yX9_init cX9_init 2 none ({ frames := 10, cells := 1, slots := 56, locals := 200 } : Room) [.ref h0, .ref s0] [(h0, .inr (1, [.null, .null, .int 0, .int 0, .null]))] (fun (v : Option Value) (w1 : va_W) => ∃ (l0 : Nat), v = none ∧ w1 = [(h0, .inr (1, [.ref s0, .ref l0, .int 0, .int (-1), .null])), (l0, .inl (cy 4, 56, .inr (.inr (.inr (.inr (fun _ => none))))))]) := by
  refine kt_ofW (by decide) (Nat.le_of_ble_eq_true rfl) ?_
  intro p e s m below meth c A ls hx hb hr hU hown hlocks hml hin hP hK hD hA hS hl
  have hown : s.vm.findClass RX9 = some m.cls := hown
  have hl : lv_has ls 2 [(0, .ref h0), (1, .ref s0)] := hl
  refine lv_aload_n hx hb dX9_init_0 rfl (lv_at hl 0 rfl) ?_
  refine W.objInit hx hb hown (hU _ u_522) (hU _ u_157) (hU _ u_158) rfl (by rw [hml]; exact hl.1) rfl dX9_init_1 (Nat.le_of_ble_eq_true rfl) (Nat.le_of_ble_eq_true rfl) ?_
  refine W.eq (g2 := F0 m 4 ls []) rfl ?_
  refine lv_aload_n hx hb dX9_init_4 rfl (lv_at hl 0 rfl) ?_
  refine lv_aload_n hx hb dX9_init_5 rfl (lv_at hl 1 rfl) ?_
  refine va_putF (D := G) (ci := 1) (v := .ref s0) (ty := .object "PlaneProof$Signs") (C := RX1) (T := TX1) (N := 5) hx hb hU in_X1 tyX1 tyX1_ok nmX1 hown hK.1 hP hD hS 0 rfl rfl 0 (by decide) (hU _ u_528) (fun _ h9 => h9) rfl hin rfl (by decide +kernel) rfl rfl (Nat.le_of_ble_eq_true rfl) dX9_init_6 (fun H locs hP hD hS => ?_)
  have hP : va_P G vwCl [(h0, .inr (1, [.ref s0, .null, .int 0, .int 0, .null]))] H := hP
  have hD : va_D A [(h0, .inr (1, [.ref s0, .null, .int 0, .int 0, .null]))] := hD
  refine lv_aload_n hx hb dX9_init_9 rfl (lv_at hl 0 rfl) ?_
  refine lv_bipush (v := 56) hx hb dX9_init_10 (by decide) ?_
  refine lx_newq (C := RX5) (N' := 56) hx hb hown hU u_523 hK.2.1 hK hP hD hS hA 4 rfl (by decide) (by decide +kernel) (Nat.le_of_ble_eq_true rfl) (Nat.le_of_ble_eq_true rfl) (Nat.le_of_ble_eq_true rfl) dX9_init_12 (fun q_1 H hP hD hS => ?_)
  have hP : va_P G vwCl [(h0, .inr (1, [.ref s0, .null, .int 0, .int 0, .null])), (q_1, .inl (cy 4, 56, .inr (.inr (.inr (.inr (fun _ => none))))))] H := hP
  have hD : va_D A [(h0, .inr (1, [.ref s0, .null, .int 0, .int 0, .null])), (q_1, .inl (cy 4, 56, .inr (.inr (.inr (.inr (fun _ => none))))))] := hD
  refine W.widen (k := 1) (n := 56) (Nat.le_of_ble_eq_true rfl) (Nat.le_of_ble_eq_true rfl) ?_
  refine va_putF (D := G) (ci := 1) (v := .ref q_1) (ty := .array (.object "PlaneProof$Line")) (C := RX1) (T := TX1) (N := 5) hx hb hU in_X1 tyX1 tyX1_ok nmX1 hown hK.1 hP hD hS 0 rfl rfl 1 (by decide) (hU _ u_533) (fun _ h9 => h9) rfl hin rfl (by decide +kernel) rfl rfl (Nat.le_of_ble_eq_true rfl) dX9_init_15 (fun H locs hP hD hS => ?_)
  have hP : va_P G vwCl [(h0, .inr (1, [.ref s0, .ref q_1, .int 0, .int 0, .null])), (q_1, .inl (cy 4, 56, .inr (.inr (.inr (.inr (fun _ => none))))))] H := hP
  have hD : va_D A [(h0, .inr (1, [.ref s0, .ref q_1, .int 0, .int 0, .null])), (q_1, .inl (cy 4, 56, .inr (.inr (.inr (.inr (fun _ => none))))))] := hD
  refine lv_aload_n hx hb dX9_init_18 rfl (lv_at hl 0 rfl) ?_
  refine lv_iconst (v := 0) hx hb dX9_init_19 (by decide) ?_
  refine va_put (D := G) (ci := 1) (v := .int 0) (ty := .int) (C := RX1) (T := TX1) (N := 5) hx hb hU in_X1 tyX1 tyX1_ok nmX1 hown hK.1 hP hD hS 0 rfl rfl 2 (by decide) (hU _ u_539) (fun _ h9 => h9) rfl (by decide +kernel) rfl rfl (Nat.le_of_ble_eq_true rfl) dX9_init_20 (fun H locs hP hD hS => ?_)
  have hP : va_P G vwCl [(h0, .inr (1, [.ref s0, .ref q_1, .int 0, .int 0, .null])), (q_1, .inl (cy 4, 56, .inr (.inr (.inr (.inr (fun _ => none))))))] H := hP
  have hD : va_D A [(h0, .inr (1, [.ref s0, .ref q_1, .int 0, .int 0, .null])), (q_1, .inl (cy 4, 56, .inr (.inr (.inr (.inr (fun _ => none))))))] := hD
  refine lv_aload_n hx hb dX9_init_23 rfl (lv_at hl 0 rfl) ?_
  refine lv_iconst (v := (-1)) hx hb dX9_init_24 (by decide) ?_
  refine va_put (D := G) (ci := 1) (v := .int (-1)) (ty := .int) (C := RX1) (T := TX1) (N := 5) hx hb hU in_X1 tyX1 tyX1_ok nmX1 hown hK.1 hP hD hS 0 rfl rfl 3 (by decide) (hU _ u_545) (fun _ h9 => h9) rfl (by decide +kernel) rfl rfl (Nat.le_of_ble_eq_true rfl) dX9_init_25 (fun H locs hP hD hS => ?_)
  have hP : va_P G vwCl [(h0, .inr (1, [.ref s0, .ref q_1, .int 0, .int (-1), .null])), (q_1, .inl (cy 4, 56, .inr (.inr (.inr (.inr (fun _ => none))))))] H := hP
  have hD : va_D A [(h0, .inr (1, [.ref s0, .ref q_1, .int 0, .int (-1), .null])), (q_1, .inl (cy 4, 56, .inr (.inr (.inr (.inr (fun _ => none))))))] := hD
  exact kt_vret hx hb hr hlocks hP hD hS dX9_init_28 [0, 1] rfl rfl rfl rfl ⟨q_1, rfl, rfl⟩
set_option maxHeartbeats 4000000 in
set_option maxRecDepth 100000 in
theorem c_X9_init_6 (l : Launch) (G : va_G) (cy : Nat → ClassId) (h0 : Nat) (s0 : Nat) : Kt l G cy yX9_init cX9_init 2 none ({ frames := 10, cells := 1, slots := 56, locals := 200 } : Room) [.ref h0, .ref s0] [(h0, .inr (6, [.null, .null, .int 0, .int 0]))] (fun (v : Option Value) (w1 : va_W) => ∃ (l0 : Nat), v = none ∧ w1 = [(h0, .inr (6, [.ref s0, .ref l0, .int 0, .int (-1)])), (l0, .inl (cy 4, 56, .inr (.inr (.inr (.inr (fun _ => none))))))]) := by
  refine kt_ofW (by decide) (Nat.le_of_ble_eq_true rfl) ?_
  intro p e s m below meth c A ls hx hb hr hU hown hlocks hml hin hP hK hD hA hS hl
  have hown : s.vm.findClass RX9 = some m.cls := hown
  have hl : lv_has ls 2 [(0, .ref h0), (1, .ref s0)] := hl
  refine lv_aload_n hx hb dX9_init_0 rfl (lv_at hl 0 rfl) ?_
  refine W.objInit hx hb hown (hU _ u_522) (hU _ u_157) (hU _ u_158) rfl (by rw [hml]; exact hl.1) rfl dX9_init_1 (Nat.le_of_ble_eq_true rfl) (Nat.le_of_ble_eq_true rfl) ?_
  refine W.eq (g2 := F0 m 4 ls []) rfl ?_
  refine lv_aload_n hx hb dX9_init_4 rfl (lv_at hl 0 rfl) ?_
  refine lv_aload_n hx hb dX9_init_5 rfl (lv_at hl 1 rfl) ?_
  refine va_putF (D := G) (ci := 6) (v := .ref s0) (ty := .object "PlaneProof$Signs") (C := RX6) (T := TX6) (N := 4) hx hb hU in_X6 tyX6 tyX6_ok nmX6 hown hK.1 hP hD hS 0 rfl rfl 0 (by decide) (hU _ u_528) (fun _ h9 => h9) rfl hin rfl (by decide +kernel) rfl rfl (Nat.le_of_ble_eq_true rfl) dX9_init_6 (fun H locs hP hD hS => ?_)
  have hP : va_P G vwCl [(h0, .inr (6, [.ref s0, .null, .int 0, .int 0]))] H := hP
  have hD : va_D A [(h0, .inr (6, [.ref s0, .null, .int 0, .int 0]))] := hD
  refine lv_aload_n hx hb dX9_init_9 rfl (lv_at hl 0 rfl) ?_
  refine lv_bipush (v := 56) hx hb dX9_init_10 (by decide) ?_
  refine lx_newq (C := RX5) (N' := 56) hx hb hown hU u_523 hK.2.1 hK hP hD hS hA 4 rfl (by decide) (by decide +kernel) (Nat.le_of_ble_eq_true rfl) (Nat.le_of_ble_eq_true rfl) (Nat.le_of_ble_eq_true rfl) dX9_init_12 (fun q_1 H hP hD hS => ?_)
  have hP : va_P G vwCl [(h0, .inr (6, [.ref s0, .null, .int 0, .int 0])), (q_1, .inl (cy 4, 56, .inr (.inr (.inr (.inr (fun _ => none))))))] H := hP
  have hD : va_D A [(h0, .inr (6, [.ref s0, .null, .int 0, .int 0])), (q_1, .inl (cy 4, 56, .inr (.inr (.inr (.inr (fun _ => none))))))] := hD
  refine W.widen (k := 1) (n := 56) (Nat.le_of_ble_eq_true rfl) (Nat.le_of_ble_eq_true rfl) ?_
  refine va_putF (D := G) (ci := 6) (v := .ref q_1) (ty := .array (.object "PlaneProof$Line")) (C := RX6) (T := TX6) (N := 4) hx hb hU in_X6 tyX6 tyX6_ok nmX6 hown hK.1 hP hD hS 0 rfl rfl 1 (by decide) (hU _ u_533) (fun _ h9 => h9) rfl hin rfl (by decide +kernel) rfl rfl (Nat.le_of_ble_eq_true rfl) dX9_init_15 (fun H locs hP hD hS => ?_)
  have hP : va_P G vwCl [(h0, .inr (6, [.ref s0, .ref q_1, .int 0, .int 0])), (q_1, .inl (cy 4, 56, .inr (.inr (.inr (.inr (fun _ => none))))))] H := hP
  have hD : va_D A [(h0, .inr (6, [.ref s0, .ref q_1, .int 0, .int 0])), (q_1, .inl (cy 4, 56, .inr (.inr (.inr (.inr (fun _ => none))))))] := hD
  refine lv_aload_n hx hb dX9_init_18 rfl (lv_at hl 0 rfl) ?_
  refine lv_iconst (v := 0) hx hb dX9_init_19 (by decide) ?_
  refine va_put (D := G) (ci := 6) (v := .int 0) (ty := .int) (C := RX6) (T := TX6) (N := 4) hx hb hU in_X6 tyX6 tyX6_ok nmX6 hown hK.1 hP hD hS 0 rfl rfl 2 (by decide) (hU _ u_539) (fun _ h9 => h9) rfl (by decide +kernel) rfl rfl (Nat.le_of_ble_eq_true rfl) dX9_init_20 (fun H locs hP hD hS => ?_)
  have hP : va_P G vwCl [(h0, .inr (6, [.ref s0, .ref q_1, .int 0, .int 0])), (q_1, .inl (cy 4, 56, .inr (.inr (.inr (.inr (fun _ => none))))))] H := hP
  have hD : va_D A [(h0, .inr (6, [.ref s0, .ref q_1, .int 0, .int 0])), (q_1, .inl (cy 4, 56, .inr (.inr (.inr (.inr (fun _ => none))))))] := hD
  refine lv_aload_n hx hb dX9_init_23 rfl (lv_at hl 0 rfl) ?_
  refine lv_iconst (v := (-1)) hx hb dX9_init_24 (by decide) ?_
  refine va_put (D := G) (ci := 6) (v := .int (-1)) (ty := .int) (C := RX6) (T := TX6) (N := 4) hx hb hU in_X6 tyX6 tyX6_ok nmX6 hown hK.1 hP hD hS 0 rfl rfl 3 (by decide) (hU _ u_545) (fun _ h9 => h9) rfl (by decide +kernel) rfl rfl (Nat.le_of_ble_eq_true rfl) dX9_init_25 (fun H locs hP hD hS => ?_)
  have hP : va_P G vwCl [(h0, .inr (6, [.ref s0, .ref q_1, .int 0, .int (-1)])), (q_1, .inl (cy 4, 56, .inr (.inr (.inr (.inr (fun _ => none))))))] H := hP
  have hD : va_D A [(h0, .inr (6, [.ref s0, .ref q_1, .int 0, .int (-1)])), (q_1, .inl (cy 4, 56, .inr (.inr (.inr (.inr (fun _ => none))))))] := hD
  exact kt_vret hx hb hr hlocks hP hD hS dX9_init_28 [0, 1] rfl rfl rfl rfl ⟨q_1, rfl, rfl⟩
set_option maxHeartbeats 4000000 in
set_option maxRecDepth 100000 in
theorem c_X1_init (l : Launch) (G : va_G) (cy : Nat → ClassId) (h0 : Nat) (s0 : Nat) : Kt l G cy yX1_init cX1_init 2 none ({ frames := 12, cells := 3, slots := 66, locals := 300 } : Room) [.ref h0, .ref s0] [(h0, .inr (1, [.null, .null, .int 0, .int 0, .null]))] (fun (v : Option Value) (w1 : va_W) => ∃ (l0 : Nat), ∃ (g0 : Nat), ∃ (g1 : Nat), v = none ∧ w1 = [(h0, .inr (1, [.ref s0, .ref l0, .int 0, .int (-1), .ref g0])), (l0, .inl (cy 4, 56, .inr (.inr (.inr (.inr (fun _ => none)))))), (g0, .inr (4, [.int 0, .int 0, .int (-1), .ref g1])), (g1, .inl (cy 1, 6, .inl (fun _ => 0)))]) := by
  refine kt_ofW (by decide) (Nat.le_of_ble_eq_true rfl) ?_
  intro p e s m below meth c A ls hx hb hr hU hown hlocks hml hin hP hK hD hA hS hl
  have hown : s.vm.findClass RX1 = some m.cls := hown
  have hl : lv_has ls 2 [(0, .ref h0), (1, .ref s0)] := hl
  refine lv_aload_n hx hb dX1_init_0 rfl (lv_at hl 0 rfl) ?_
  refine lv_aload_n hx hb dX1_init_1 rfl (lv_at hl 1 rfl) ?_
  refine kt_callI (wc := [(h0, .inr (1, [.null, .null, .int 0, .int 0, .null]))]) (wr := []) (As := [.ref s0]) (rest := []) (c_X9_init_1 l G cy h0 s0) m_X9_init u_519 hx hb hml hown hU hl.1 hK hP hD hS hA dX1_init_2 [0] [] rfl rfl rfl rfl rfl rfl (Nat.le_of_ble_eq_true rfl) (fun v9 w9 H locs hw hP hD hS => ?_)
  obtain ⟨x_1, rfl, rfl⟩ := hw
  have hP : va_P G vwCl [(h0, .inr (1, [.ref s0, .ref x_1, .int 0, .int (-1), .null])), (x_1, .inl (cy 4, 56, .inr (.inr (.inr (.inr (fun _ => none))))))] H := hP
  have hD : va_D A [(h0, .inr (1, [.ref s0, .ref x_1, .int 0, .int (-1), .null])), (x_1, .inl (cy 4, 56, .inr (.inr (.inr (.inr (fun _ => none))))))] := hD
  refine W.eq (g2 := F0 m 5 ls []) rfl ?_
  refine W.widen (k := 1) (n := 56) (Nat.le_of_ble_eq_true rfl) (Nat.le_of_ble_eq_true rfl) ?_
  refine lv_aload_n hx hb dX1_init_5 rfl (lv_at hl 0 rfl) ?_
  refine va_new (ci := 4) (fs := [.int 0, .int 0, .int 0, .null]) (C := RX4) (T := TX4) (N := 4) hx hb hU in_X4 tyX4 tyX4_ok hown (hU _ u_524) (hU _ u_191) (hU _ u_125) hK.1 hP hD hS hA rfl df_X4 (Nat.le_of_ble_eq_true rfl) (Nat.le_of_ble_eq_true rfl) dX1_init_6 (fun q_2 H hP hD hS => ?_)
  have hP : va_P G vwCl [(h0, .inr (1, [.ref s0, .ref x_1, .int 0, .int (-1), .null])), (x_1, .inl (cy 4, 56, .inr (.inr (.inr (.inr (fun _ => none)))))), (q_2, .inr (4, [.int 0, .int 0, .int 0, .null]))] H := hP
  have hD : va_D A [(h0, .inr (1, [.ref s0, .ref x_1, .int 0, .int (-1), .null])), (x_1, .inl (cy 4, 56, .inr (.inr (.inr (.inr (fun _ => none)))))), (q_2, .inr (4, [.int 0, .int 0, .int 0, .null]))] := hD
  refine W.widen (k := 2) (n := 60) (Nat.le_of_ble_eq_true rfl) (Nat.le_of_ble_eq_true rfl) ?_
  refine lv_dup hx hb dX1_init_9 rfl ?_
  refine kt_callI (wc := [(q_2, .inr (4, [.int 0, .int 0, .int 0, .null]))]) (wr := [(h0, .inr (1, [.ref s0, .ref x_1, .int 0, .int (-1), .null])), (x_1, .inl (cy 4, 56, .inr (.inr (.inr (.inr (fun _ => none))))))]) (As := []) (rest := [.ref q_2, .ref h0]) (c_X4_init l G cy q_2) m_X4_init u_525 hx hb hml hown hU hl.1 hK hP hD hS hA dX1_init_10 [2] [0, 1] rfl rfl rfl rfl rfl rfl (Nat.le_of_ble_eq_true rfl) (fun v9 w9 H locs hw hP hD hS => ?_)
  obtain ⟨x_3, rfl, rfl⟩ := hw
  have hP : va_P G vwCl [(h0, .inr (1, [.ref s0, .ref x_1, .int 0, .int (-1), .null])), (x_1, .inl (cy 4, 56, .inr (.inr (.inr (.inr (fun _ => none)))))), (q_2, .inr (4, [.int 0, .int 0, .int (-1), .ref x_3])), (x_3, .inl (cy 1, 6, .inl (fun _ => 0)))] H := hP
  have hD : va_D A [(h0, .inr (1, [.ref s0, .ref x_1, .int 0, .int (-1), .null])), (x_1, .inl (cy 4, 56, .inr (.inr (.inr (.inr (fun _ => none)))))), (q_2, .inr (4, [.int 0, .int 0, .int (-1), .ref x_3])), (x_3, .inl (cy 1, 6, .inl (fun _ => 0)))] := hD
  refine W.eq (g2 := F0 m 13 ls [.ref q_2, .ref h0]) rfl ?_
  refine W.widen (k := 3) (n := 66) (Nat.le_of_ble_eq_true rfl) (Nat.le_of_ble_eq_true rfl) ?_
  refine va_putF (D := G) (ci := 1) (v := .ref q_2) (ty := .object "PlaneProof$Graph") (C := RX1) (T := TX1) (N := 5) hx hb hU in_X1 tyX1 tyX1_ok nmX1 hown hK.1 hP hD hS 0 rfl rfl 4 (by decide) (hU _ u_526) (fun _ h9 => h9) rfl hin rfl (by decide +kernel) rfl rfl (Nat.le_of_ble_eq_true rfl) dX1_init_13 (fun H locs hP hD hS => ?_)
  have hP : va_P G vwCl [(h0, .inr (1, [.ref s0, .ref x_1, .int 0, .int (-1), .ref q_2])), (x_1, .inl (cy 4, 56, .inr (.inr (.inr (.inr (fun _ => none)))))), (q_2, .inr (4, [.int 0, .int 0, .int (-1), .ref x_3])), (x_3, .inl (cy 1, 6, .inl (fun _ => 0)))] H := hP
  have hD : va_D A [(h0, .inr (1, [.ref s0, .ref x_1, .int 0, .int (-1), .ref q_2])), (x_1, .inl (cy 4, 56, .inr (.inr (.inr (.inr (fun _ => none)))))), (q_2, .inr (4, [.int 0, .int 0, .int (-1), .ref x_3])), (x_3, .inl (cy 1, 6, .inl (fun _ => 0)))] := hD
  exact kt_vret hx hb hr hlocks hP hD hS dX1_init_16 [0, 1, 2, 3] rfl rfl rfl rfl ⟨x_1, q_2, x_3, rfl, rfl⟩
set_option maxHeartbeats 4000000 in
set_option maxRecDepth 100000 in
theorem c_X6_init (l : Launch) (G : va_G) (cy : Nat → ClassId) (h0 : Nat) (s0 : Nat) (r2 : Nat) (r3 : Nat) : Kt l G cy yX6_init cX6_init 4 none ({ frames := 12, cells := 1, slots := 56, locals := 300 } : Room) [.ref h0, .ref s0, .ref r2] [(h0, .inr (6, [.null, .null, .int 0, .int 0])), (r2, .inr (0, [.ref r3, .int 0, .int 0]))] (fun (v : Option Value) (w1 : va_W) => ∃ (l0 : Nat), v = none ∧ w1 = [(h0, .inr (6, [.ref s0, .ref l0, .int 0, .int (-1)])), (l0, .inl (cy 4, 56, .inr (.inr (.inr (.inr (fun _ => none)))))), (r2, .inr (0, [.ref r3, .int 0, .int 0]))]) := by
  refine kt_ofW (by decide) (Nat.le_of_ble_eq_true rfl) ?_
  intro p e s m below meth c A ls hx hb hr hU hown hlocks hml hin hP hK hD hA hS hl
  have hown : s.vm.findClass RX6 = some m.cls := hown
  have hl : lv_has ls 4 [(0, .ref h0), (1, .ref s0), (2, .ref r2)] := hl
  refine lv_aload_n hx hb dX6_init_0 rfl (lv_at hl 0 rfl) ?_
  refine lv_aload_n hx hb dX6_init_1 rfl (lv_at hl 1 rfl) ?_
  refine kt_callI (wc := [(h0, .inr (6, [.null, .null, .int 0, .int 0]))]) (wr := [(r2, .inr (0, [.ref r3, .int 0, .int 0]))]) (As := [.ref s0]) (rest := []) (c_X9_init_6 l G cy h0 s0) m_X9_init u_1060 hx hb hml hown hU hl.1 hK hP hD hS hA dX6_init_2 [0] [1] rfl rfl rfl rfl rfl rfl (Nat.le_of_ble_eq_true rfl) (fun v9 w9 H locs hw hP hD hS => ?_)
  obtain ⟨x_1, rfl, rfl⟩ := hw
  have hP : va_P G vwCl [(r2, .inr (0, [.ref r3, .int 0, .int 0])), (h0, .inr (6, [.ref s0, .ref x_1, .int 0, .int (-1)])), (x_1, .inl (cy 4, 56, .inr (.inr (.inr (.inr (fun _ => none))))))] H := hP
  have hD : va_D A [(r2, .inr (0, [.ref r3, .int 0, .int 0])), (h0, .inr (6, [.ref s0, .ref x_1, .int 0, .int (-1)])), (x_1, .inl (cy 4, 56, .inr (.inr (.inr (.inr (fun _ => none))))))] := hD
  refine W.eq (g2 := F0 m 5 ls []) rfl ?_
  refine W.widen (k := 1) (n := 56) (Nat.le_of_ble_eq_true rfl) (Nat.le_of_ble_eq_true rfl) ?_
  refine lv_iconst (v := 0) hx hb dX6_init_5 (by decide) ?_
  refine lv_istore_n (lv' := [(3, .int 0), (0, .ref h0), (1, .ref s0), (2, .ref r2)]) hx hb dX6_init_6 rfl hl (by decide) rfl (fun ls hl => ?_)
  refine lv_iload_n hx hb dX6_init_7 rfl (lv_at hl 0 rfl) ?_
  refine lv_aload_n hx hb dX6_init_8 rfl (lv_at hl 3 rfl) ?_
  refine va_get (D := G) (ci := 0) (v := .int 0) (C := RX0) (T := TX0) (N := 3) hx hb hU in_X0 hown hK.1 hP 0 rfl rfl 1 (by decide) (hU _ u_173) (fun _ h9 => h9) rfl dX6_init_9 ?_
  refine lv_icmp_ge (tgt := 33) hx hb dX6_init_12 (by decide) (fun _ => ?_) (fun c9 => absurd (by decide) c9)
  refine lv_aload_n hx hb dX6_init_33 rfl (lv_at hl 1 rfl) ?_
  refine lv_aload_n hx hb dX6_init_34 rfl (lv_at hl 3 rfl) ?_
  refine va_get (D := G) (ci := 0) (v := .int 0) (C := RX0) (T := TX0) (N := 3) hx hb hU in_X0 hown hK.1 hP 0 rfl rfl 1 (by decide) (hU _ u_173) (fun _ h9 => h9) rfl dX6_init_35 ?_
  refine va_put (D := G) (ci := 6) (v := .int 0) (ty := .int) (C := RX6) (T := TX6) (N := 4) hx hb hU in_X6 tyX6 tyX6_ok nmX6 hown hK.1 hP hD hS 1 rfl rfl 2 (by decide) (hU _ u_540) (fun x9 h9 => u_same (hU _ u_541) x9 h9) rfl (by decide +kernel) rfl rfl (Nat.le_of_ble_eq_true rfl) dX6_init_38 (fun H locs hP hD hS => ?_)
  have hP : va_P G vwCl [(r2, .inr (0, [.ref r3, .int 0, .int 0])), (h0, .inr (6, [.ref s0, .ref x_1, .int 0, .int (-1)])), (x_1, .inl (cy 4, 56, .inr (.inr (.inr (.inr (fun _ => none))))))] H := hP
  have hD : va_D A [(r2, .inr (0, [.ref r3, .int 0, .int 0])), (h0, .inr (6, [.ref s0, .ref x_1, .int 0, .int (-1)])), (x_1, .inl (cy 4, 56, .inr (.inr (.inr (.inr (fun _ => none))))))] := hD
  exact kt_vret hx hb hr hlocks hP hD hS dX6_init_41 [1, 2, 0] rfl rfl rfl rfl ⟨x_1, rfl, rfl⟩
set_option maxHeartbeats 4000000 in
set_option maxRecDepth 100000 in
theorem c_X9_readText_1 (l : Launch) (G : va_G) (cy : Nat → ClassId) (h0 : Nat) (s0 : Nat) (l0 : Nat) (g0 : Nat) (t0 : Nat) (p0 : Int32) (hp : 0 < p0) : Kt l G cy yX9_readText cX9_readText 5 (some .boolean) ({ frames := 14, cells := 0, slots := 0, locals := 400 } : Room) [.ref h0, .int p0] [(h0, .inr (1, [.ref s0, .ref l0, .int 0, .int (-1), .ref g0])), (s0, .inr (8, [.ref t0, .int 0, .int 0, .int 0, .int 0, .int (-1)]))] (fun (v : Option Value) (w1 : va_W) => v = some (.int 1) ∧ w1 = [(h0, .inr (1, [.ref s0, .ref l0, .int 0, .int (-1), .ref g0]))]) := by
  refine kt_ofW (by decide) (Nat.le_of_ble_eq_true rfl) ?_
  intro p e s m below meth c A ls hx hb hr hU hown hlocks hml hin hP hK hD hA hS hl
  have hown : s.vm.findClass RX9 = some m.cls := hown
  have hl : lv_has ls 5 [(0, .ref h0), (1, .int p0)] := hl
  refine lv_aload_n hx hb dX9_readText_0 rfl (lv_at hl 0 rfl) ?_
  refine va_get (D := G) (ci := 1) (v := .ref s0) (C := RX1) (T := TX1) (N := 5) hx hb hU in_X1 hown hK.1 hP 0 rfl rfl 0 (by decide) (hU _ u_528) (fun _ h9 => h9) rfl dX9_readText_1 ?_
  refine kt_callV (wc := [(s0, .inr (8, [.ref t0, .int 0, .int 0, .int 0, .int 0, .int (-1)]))]) (wr := [(h0, .inr (1, [.ref s0, .ref l0, .int 0, .int (-1), .ref g0]))]) (As := []) (rest := []) (c_X8_advance l G cy s0 t0) m_X8_advance u_567 hx hb hml hown hU hl.1 hK hP hD hS hA dX9_readText_4 [1] [0] rfl rfl rfl rfl rfl rfl (Nat.le_of_ble_eq_true rfl) (ci := 8) rfl rfl rfl (fun v9 w9 H locs hw hP hD hS => ?_)
  obtain ⟨rfl, rfl⟩ := hw
  have hP : va_P G vwCl [(h0, .inr (1, [.ref s0, .ref l0, .int 0, .int (-1), .ref g0])), (s0, .inr (8, [.ref t0, .int 0, .int 0, .int 0, .int 0, .int (-1)]))] H := hP
  have hD : va_D A [(h0, .inr (1, [.ref s0, .ref l0, .int 0, .int (-1), .ref g0])), (s0, .inr (8, [.ref t0, .int 0, .int 0, .int 0, .int 0, .int (-1)]))] := hD
  refine W.eq (g2 := F0 m 7 ls []) rfl ?_
  refine W.widen (k := 0) (n := 0) (Nat.le_of_ble_eq_true rfl) (Nat.le_of_ble_eq_true rfl) ?_
  refine lv_iconst (v := 0) hx hb dX9_readText_7 (by decide) ?_
  refine lv_istore_n (lv' := [(2, .int 0), (0, .ref h0), (1, .int p0)]) hx hb dX9_readText_8 rfl hl (by decide) rfl (fun ls hl => ?_)
  refine lv_iload_n hx hb dX9_readText_9 rfl (lv_at hl 0 rfl) ?_
  refine lv_iload_n hx hb dX9_readText_10 rfl (lv_at hl 2 rfl) ?_
  refine lv_icmp_ge (tgt := 97) hx hb dX9_readText_11 (by decide) (fun c9 => absurd c9 (lx_nle hp)) (fun _ => ?_)
  refine lv_aload_n hx hb dX9_readText_14 rfl (lv_at hl 1 rfl) ?_
  refine va_get (D := G) (ci := 1) (v := .ref s0) (C := RX1) (T := TX1) (N := 5) hx hb hU in_X1 hown hK.1 hP 0 rfl rfl 0 (by decide) (hU _ u_528) (fun _ h9 => h9) rfl dX9_readText_15 ?_
  refine kt_callV (wc := [(s0, .inr (8, [.ref t0, .int 0, .int 0, .int 0, .int 0, .int (-1)]))]) (wr := [(h0, .inr (1, [.ref s0, .ref l0, .int 0, .int (-1), .ref g0]))]) (As := []) (rest := []) (c_X8_isEnd l G cy s0 t0) m_X8_isEnd u_579 hx hb hml hown hU hl.1 hK hP hD hS hA dX9_readText_18 [1] [0] rfl rfl rfl rfl rfl rfl (Nat.le_of_ble_eq_true rfl) (ci := 8) rfl rfl rfl (fun v9 w9 H locs hw hP hD hS => ?_)
  obtain ⟨rfl, rfl⟩ := hw
  have hP : va_P G vwCl [(h0, .inr (1, [.ref s0, .ref l0, .int 0, .int (-1), .ref g0])), (s0, .inr (8, [.ref t0, .int 0, .int 0, .int 0, .int 0, .int (-1)]))] H := hP
  have hD : va_D A [(h0, .inr (1, [.ref s0, .ref l0, .int 0, .int (-1), .ref g0])), (s0, .inr (8, [.ref t0, .int 0, .int 0, .int 0, .int 0, .int (-1)]))] := hD
  refine W.eq (g2 := F0 m 21 ls [.int 1]) rfl ?_
  refine W.widen (k := 0) (n := 0) (Nat.le_of_ble_eq_true rfl) (Nat.le_of_ble_eq_true rfl) ?_
  refine lv_if_ne (tgt := 97) hx hb dX9_readText_21 (by decide) (fun _ => ?_) (fun c9 => absurd c9 (by decide))
  refine lv_aload_n hx hb dX9_readText_97 rfl (lv_at hl 1 rfl) ?_
  refine va_get (D := G) (ci := 1) (v := .ref s0) (C := RX1) (T := TX1) (N := 5) hx hb hU in_X1 hown hK.1 hP 0 rfl rfl 0 (by decide) (hU _ u_528) (fun _ h9 => h9) rfl dX9_readText_98 ?_
  refine kt_callV (wc := [(s0, .inr (8, [.ref t0, .int 0, .int 0, .int 0, .int 0, .int (-1)]))]) (wr := [(h0, .inr (1, [.ref s0, .ref l0, .int 0, .int (-1), .ref g0]))]) (As := []) (rest := []) (c_X8_isEnd l G cy s0 t0) m_X8_isEnd u_579 hx hb hml hown hU hl.1 hK hP hD hS hA dX9_readText_101 [1] [0] rfl rfl rfl rfl rfl rfl (Nat.le_of_ble_eq_true rfl) (ci := 8) rfl rfl rfl (fun v9 w9 H locs hw hP hD hS => ?_)
  obtain ⟨rfl, rfl⟩ := hw
  have hP : va_P G vwCl [(h0, .inr (1, [.ref s0, .ref l0, .int 0, .int (-1), .ref g0])), (s0, .inr (8, [.ref t0, .int 0, .int 0, .int 0, .int 0, .int (-1)]))] H := hP
  have hD : va_D A [(h0, .inr (1, [.ref s0, .ref l0, .int 0, .int (-1), .ref g0])), (s0, .inr (8, [.ref t0, .int 0, .int 0, .int 0, .int 0, .int (-1)]))] := hD
  refine W.eq (g2 := F0 m 104 ls [.int 1]) rfl ?_
  refine W.widen (k := 0) (n := 0) (Nat.le_of_ble_eq_true rfl) (Nat.le_of_ble_eq_true rfl) ?_
  refine lv_if_ne (tgt := 114) hx hb dX9_readText_104 (by decide) (fun _ => ?_) (fun c9 => absurd c9 (by decide))
  refine lv_iconst (v := 1) hx hb dX9_readText_114 (by decide) ?_
  refine lv_goto (tgt := 119) hx hb dX9_readText_115 (by decide) ?_
  exact kt_zret hx hb hr hlocks hP hD hS (by first | rfl | decide | exact rfl) dX9_readText_119 [0] rfl rfl rfl rfl ⟨rfl, rfl⟩
set_option maxHeartbeats 4000000 in
set_option maxRecDepth 100000 in
theorem c_X9_readText_6 (l : Launch) (G : va_G) (cy : Nat → ClassId) (h0 : Nat) (s0 : Nat) (l0 : Nat) (t0 : Nat) (p0 : Int32) (hp : 0 < p0) : Kt l G cy yX9_readText cX9_readText 5 (some .boolean) ({ frames := 14, cells := 0, slots := 0, locals := 400 } : Room) [.ref h0, .int p0] [(h0, .inr (6, [.ref s0, .ref l0, .int 0, .int (-1)])), (s0, .inr (8, [.ref t0, .int 0, .int 0, .int 0, .int 0, .int (-1)]))] (fun (v : Option Value) (w1 : va_W) => v = some (.int 1) ∧ w1 = [(h0, .inr (6, [.ref s0, .ref l0, .int 0, .int (-1)]))]) := by
  refine kt_ofW (by decide) (Nat.le_of_ble_eq_true rfl) ?_
  intro p e s m below meth c A ls hx hb hr hU hown hlocks hml hin hP hK hD hA hS hl
  have hown : s.vm.findClass RX9 = some m.cls := hown
  have hl : lv_has ls 5 [(0, .ref h0), (1, .int p0)] := hl
  refine lv_aload_n hx hb dX9_readText_0 rfl (lv_at hl 0 rfl) ?_
  refine va_get (D := G) (ci := 6) (v := .ref s0) (C := RX6) (T := TX6) (N := 4) hx hb hU in_X6 hown hK.1 hP 0 rfl rfl 0 (by decide) (hU _ u_528) (fun _ h9 => h9) rfl dX9_readText_1 ?_
  refine kt_callV (wc := [(s0, .inr (8, [.ref t0, .int 0, .int 0, .int 0, .int 0, .int (-1)]))]) (wr := [(h0, .inr (6, [.ref s0, .ref l0, .int 0, .int (-1)]))]) (As := []) (rest := []) (c_X8_advance l G cy s0 t0) m_X8_advance u_567 hx hb hml hown hU hl.1 hK hP hD hS hA dX9_readText_4 [1] [0] rfl rfl rfl rfl rfl rfl (Nat.le_of_ble_eq_true rfl) (ci := 8) rfl rfl rfl (fun v9 w9 H locs hw hP hD hS => ?_)
  obtain ⟨rfl, rfl⟩ := hw
  have hP : va_P G vwCl [(h0, .inr (6, [.ref s0, .ref l0, .int 0, .int (-1)])), (s0, .inr (8, [.ref t0, .int 0, .int 0, .int 0, .int 0, .int (-1)]))] H := hP
  have hD : va_D A [(h0, .inr (6, [.ref s0, .ref l0, .int 0, .int (-1)])), (s0, .inr (8, [.ref t0, .int 0, .int 0, .int 0, .int 0, .int (-1)]))] := hD
  refine W.eq (g2 := F0 m 7 ls []) rfl ?_
  refine W.widen (k := 0) (n := 0) (Nat.le_of_ble_eq_true rfl) (Nat.le_of_ble_eq_true rfl) ?_
  refine lv_iconst (v := 0) hx hb dX9_readText_7 (by decide) ?_
  refine lv_istore_n (lv' := [(2, .int 0), (0, .ref h0), (1, .int p0)]) hx hb dX9_readText_8 rfl hl (by decide) rfl (fun ls hl => ?_)
  refine lv_iload_n hx hb dX9_readText_9 rfl (lv_at hl 0 rfl) ?_
  refine lv_iload_n hx hb dX9_readText_10 rfl (lv_at hl 2 rfl) ?_
  refine lv_icmp_ge (tgt := 97) hx hb dX9_readText_11 (by decide) (fun c9 => absurd c9 (lx_nle hp)) (fun _ => ?_)
  refine lv_aload_n hx hb dX9_readText_14 rfl (lv_at hl 1 rfl) ?_
  refine va_get (D := G) (ci := 6) (v := .ref s0) (C := RX6) (T := TX6) (N := 4) hx hb hU in_X6 hown hK.1 hP 0 rfl rfl 0 (by decide) (hU _ u_528) (fun _ h9 => h9) rfl dX9_readText_15 ?_
  refine kt_callV (wc := [(s0, .inr (8, [.ref t0, .int 0, .int 0, .int 0, .int 0, .int (-1)]))]) (wr := [(h0, .inr (6, [.ref s0, .ref l0, .int 0, .int (-1)]))]) (As := []) (rest := []) (c_X8_isEnd l G cy s0 t0) m_X8_isEnd u_579 hx hb hml hown hU hl.1 hK hP hD hS hA dX9_readText_18 [1] [0] rfl rfl rfl rfl rfl rfl (Nat.le_of_ble_eq_true rfl) (ci := 8) rfl rfl rfl (fun v9 w9 H locs hw hP hD hS => ?_)
  obtain ⟨rfl, rfl⟩ := hw
  have hP : va_P G vwCl [(h0, .inr (6, [.ref s0, .ref l0, .int 0, .int (-1)])), (s0, .inr (8, [.ref t0, .int 0, .int 0, .int 0, .int 0, .int (-1)]))] H := hP
  have hD : va_D A [(h0, .inr (6, [.ref s0, .ref l0, .int 0, .int (-1)])), (s0, .inr (8, [.ref t0, .int 0, .int 0, .int 0, .int 0, .int (-1)]))] := hD
  refine W.eq (g2 := F0 m 21 ls [.int 1]) rfl ?_
  refine W.widen (k := 0) (n := 0) (Nat.le_of_ble_eq_true rfl) (Nat.le_of_ble_eq_true rfl) ?_
  refine lv_if_ne (tgt := 97) hx hb dX9_readText_21 (by decide) (fun _ => ?_) (fun c9 => absurd c9 (by decide))
  refine lv_aload_n hx hb dX9_readText_97 rfl (lv_at hl 1 rfl) ?_
  refine va_get (D := G) (ci := 6) (v := .ref s0) (C := RX6) (T := TX6) (N := 4) hx hb hU in_X6 hown hK.1 hP 0 rfl rfl 0 (by decide) (hU _ u_528) (fun _ h9 => h9) rfl dX9_readText_98 ?_
  refine kt_callV (wc := [(s0, .inr (8, [.ref t0, .int 0, .int 0, .int 0, .int 0, .int (-1)]))]) (wr := [(h0, .inr (6, [.ref s0, .ref l0, .int 0, .int (-1)]))]) (As := []) (rest := []) (c_X8_isEnd l G cy s0 t0) m_X8_isEnd u_579 hx hb hml hown hU hl.1 hK hP hD hS hA dX9_readText_101 [1] [0] rfl rfl rfl rfl rfl rfl (Nat.le_of_ble_eq_true rfl) (ci := 8) rfl rfl rfl (fun v9 w9 H locs hw hP hD hS => ?_)
  obtain ⟨rfl, rfl⟩ := hw
  have hP : va_P G vwCl [(h0, .inr (6, [.ref s0, .ref l0, .int 0, .int (-1)])), (s0, .inr (8, [.ref t0, .int 0, .int 0, .int 0, .int 0, .int (-1)]))] H := hP
  have hD : va_D A [(h0, .inr (6, [.ref s0, .ref l0, .int 0, .int (-1)])), (s0, .inr (8, [.ref t0, .int 0, .int 0, .int 0, .int 0, .int (-1)]))] := hD
  refine W.eq (g2 := F0 m 104 ls [.int 1]) rfl ?_
  refine W.widen (k := 0) (n := 0) (Nat.le_of_ble_eq_true rfl) (Nat.le_of_ble_eq_true rfl) ?_
  refine lv_if_ne (tgt := 114) hx hb dX9_readText_104 (by decide) (fun _ => ?_) (fun c9 => absurd c9 (by decide))
  refine lv_iconst (v := 1) hx hb dX9_readText_114 (by decide) ?_
  refine lv_goto (tgt := 119) hx hb dX9_readText_115 (by decide) ?_
  exact kt_zret hx hb hr hlocks hP hD hS (by first | rfl | decide | exact rfl) dX9_readText_119 [0] rfl rfl rfl rfl ⟨rfl, rfl⟩
