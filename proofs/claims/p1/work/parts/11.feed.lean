set_option maxHeartbeats 4000000 in
set_option maxRecDepth 100000 in
theorem c_X11_putOnTape_0 (l : Launch) (G : va_G) (cy : Nat → ClassId) (h0 : Nat) (r1 : Nat) (r2 : Nat) (r4 : Nat) (r6 : Nat) (r7 : Nat) (r9 : Nat) (f0 : Nat → Int32) (p0 : Int32) : Kt l G cy yX11_putOnTape cX11_putOnTape 3 none ({ frames := 10, cells := 0, slots := 0, locals := 200 } : Room) [.ref h0, .int p0] [(h0, .inr (10, [.ref r1, .int 0, .int (-1), .ref r2, .ref r4, .ref r6, .int (-2), .ref r7, .ref r9])), (r1, .inl (cy 0, 400, .inl f0))] (fun (v : Option Value) (w1 : va_W) => ∃ (f1 : Nat → Int32), v = none ∧ w1 = [(h0, .inr (10, [.ref r1, .int 4, .int (-1), .ref r2, .ref r4, .ref r6, .int (-2), .ref r7, .ref r9])), (r1, .inl (cy 0, 400, .inl f1))]) := by
  refine kt_ofW (by decide) (Nat.le_of_ble_eq_true rfl) ?_
  intro p e s m below meth c A ls hx hb hr hU hown hlocks hml hin hP hK hD hA hS hl
  have hown : s.vm.findClass RX11 = some m.cls := hown
  have hl : lv_has ls 3 [(0, .ref h0), (1, .int p0)] := hl
  refine lv_bipush (v := 24) hx hb dX11_putOnTape_0 (by decide) ?_
  refine lv_istore_n (lv' := [(2, .int 24), (0, .ref h0), (1, .int p0)]) hx hb dX11_putOnTape_2 rfl hl (by decide) rfl (fun ls hl => ?_)
  refine lv_iload_n hx hb dX11_putOnTape_3 rfl (lv_at hl 0 rfl) ?_
  refine lv_if_lt (tgt := 46) hx hb dX11_putOnTape_4 (by decide) (fun c9 => absurd c9 (by decide)) (fun _ => ?_)
  refine lv_aload_n hx hb dX11_putOnTape_7 rfl (lv_at hl 1 rfl) ?_
  refine va_get (D := G) (ci := 10) (v := .int 0) (C := RX11) (T := TX11) (N := 9) hx hb hU in_X11 hown hK.1 hP 0 rfl rfl 1 (by decide) (hU _ u_251) (fun _ h9 => h9) rfl dX11_putOnTape_8 ?_
  refine lv_sipush (v := 400) hx hb dX11_putOnTape_11 (by decide) ?_
  refine lv_icmp_ge (tgt := 40) hx hb dX11_putOnTape_14 (by decide) (fun c9 => absurd c9 (by decide)) (fun _ => ?_)
  refine lv_aload_n hx hb dX11_putOnTape_17 rfl (lv_at hl 1 rfl) ?_
  refine va_get (D := G) (ci := 10) (v := .ref r1) (C := RX11) (T := TX11) (N := 9) hx hb hU in_X11 hown hK.1 hP 0 rfl rfl 0 (by decide) (hU _ u_250) (fun _ h9 => h9) rfl dX11_putOnTape_18 ?_
  refine lv_aload_n hx hb dX11_putOnTape_21 rfl (lv_at hl 1 rfl) ?_
  refine va_get (D := G) (ci := 10) (v := .int 0) (C := RX11) (T := TX11) (N := 9) hx hb hU in_X11 hown hK.1 hP 0 rfl rfl 1 (by decide) (hU _ u_251) (fun _ h9 => h9) rfl dX11_putOnTape_22 ?_
  refine lv_iload_n hx hb dX11_putOnTape_25 rfl (lv_at hl 2 rfl) ?_
  refine lv_iload_n hx hb dX11_putOnTape_26 rfl (lv_at hl 0 rfl) ?_
  refine lv_iushr hx hb dX11_putOnTape_27 rfl ?_
  refine lv_i2b hx hb dX11_putOnTape_28 rfl ?_
  refine va_bast hx hb hK.1 hP hD hS 1 0 rfl rfl (lx_in (by decide +kernel)) dX11_putOnTape_29 (fun H locs hP hD hS => ?_)
  have hP : va_P G vwCl [(h0, .inr (10, [.ref r1, .int 0, .int (-1), .ref r2, .ref r4, .ref r6, .int (-2), .ref r7, .ref r9])), (r1, .inl (cy 0, 400, .inl (upd f0 (0 : Int32).toNatClampNeg (vp_nar .byte (((((p0).toUInt32 >>> ((24).toUInt32 &&& Int32.toUInt32 31)).toInt32)).toInt8.toInt32)))))] H := hP
  have hD : va_D A [(h0, .inr (10, [.ref r1, .int 0, .int (-1), .ref r2, .ref r4, .ref r6, .int (-2), .ref r7, .ref r9])), (r1, .inl (cy 0, 400, .inl (upd f0 (0 : Int32).toNatClampNeg (vp_nar .byte (((((p0).toUInt32 >>> ((24).toUInt32 &&& Int32.toUInt32 31)).toInt32)).toInt8.toInt32)))))] := hD
  generalize ef_1 : (upd f0 (0 : Int32).toNatClampNeg (vp_nar .byte (((((p0).toUInt32 >>> ((24).toUInt32 &&& Int32.toUInt32 31)).toInt32)).toInt8.toInt32))) = f_1 at hP hD
  refine lv_aload_n hx hb dX11_putOnTape_30 rfl (lv_at hl 1 rfl) ?_
  refine lv_dup hx hb dX11_putOnTape_31 rfl ?_
  refine va_get (D := G) (ci := 10) (v := .int 0) (C := RX11) (T := TX11) (N := 9) hx hb hU in_X11 hown hK.1 hP 0 rfl rfl 1 (by decide) (hU _ u_251) (fun _ h9 => h9) rfl dX11_putOnTape_32 ?_
  refine lv_iconst (v := 1) hx hb dX11_putOnTape_35 (by decide) ?_
  refine lv_iadd hx hb dX11_putOnTape_36 (lx_top (y := 1) (by decide +kernel) ?_)
  refine va_put (D := G) (ci := 10) (v := .int 1) (ty := .int) (C := RX11) (T := TX11) (N := 9) hx hb hU in_X11 tyX11 tyX11_ok nmX11 hown hK.1 hP hD hS 0 rfl rfl 1 (by decide) (hU _ u_251) (fun _ h9 => h9) rfl (by decide +kernel) rfl rfl (Nat.le_of_ble_eq_true rfl) dX11_putOnTape_37 (fun H locs hP hD hS => ?_)
  have hP : va_P G vwCl [(h0, .inr (10, [.ref r1, .int 1, .int (-1), .ref r2, .ref r4, .ref r6, .int (-2), .ref r7, .ref r9])), (r1, .inl (cy 0, 400, .inl f_1))] H := hP
  have hD : va_D A [(h0, .inr (10, [.ref r1, .int 1, .int (-1), .ref r2, .ref r4, .ref r6, .int (-2), .ref r7, .ref r9])), (r1, .inl (cy 0, 400, .inl f_1))] := hD
  refine lv_iinc (v := 16) (lv' := [(2, .int 16), (0, .ref h0), (1, .int p0)]) hx hb dX11_putOnTape_40 hl (k := 0) rfl (by decide) (by decide) rfl (fun ls hl => ?_)
  refine lv_goto (tgt := 3) hx hb dX11_putOnTape_43 (by decide) ?_
  refine lv_iload_n hx hb dX11_putOnTape_3 rfl (lv_at hl 0 rfl) ?_
  refine lv_if_lt (tgt := 46) hx hb dX11_putOnTape_4 (by decide) (fun c9 => absurd c9 (by decide)) (fun _ => ?_)
  refine lv_aload_n hx hb dX11_putOnTape_7 rfl (lv_at hl 1 rfl) ?_
  refine va_get (D := G) (ci := 10) (v := .int 1) (C := RX11) (T := TX11) (N := 9) hx hb hU in_X11 hown hK.1 hP 0 rfl rfl 1 (by decide) (hU _ u_251) (fun _ h9 => h9) rfl dX11_putOnTape_8 ?_
  refine lv_sipush (v := 400) hx hb dX11_putOnTape_11 (by decide) ?_
  refine lv_icmp_ge (tgt := 40) hx hb dX11_putOnTape_14 (by decide) (fun c9 => absurd c9 (by decide)) (fun _ => ?_)
  refine lv_aload_n hx hb dX11_putOnTape_17 rfl (lv_at hl 1 rfl) ?_
  refine va_get (D := G) (ci := 10) (v := .ref r1) (C := RX11) (T := TX11) (N := 9) hx hb hU in_X11 hown hK.1 hP 0 rfl rfl 0 (by decide) (hU _ u_250) (fun _ h9 => h9) rfl dX11_putOnTape_18 ?_
  refine lv_aload_n hx hb dX11_putOnTape_21 rfl (lv_at hl 1 rfl) ?_
  refine va_get (D := G) (ci := 10) (v := .int 1) (C := RX11) (T := TX11) (N := 9) hx hb hU in_X11 hown hK.1 hP 0 rfl rfl 1 (by decide) (hU _ u_251) (fun _ h9 => h9) rfl dX11_putOnTape_22 ?_
  refine lv_iload_n hx hb dX11_putOnTape_25 rfl (lv_at hl 2 rfl) ?_
  refine lv_iload_n hx hb dX11_putOnTape_26 rfl (lv_at hl 0 rfl) ?_
  refine lv_iushr hx hb dX11_putOnTape_27 rfl ?_
  refine lv_i2b hx hb dX11_putOnTape_28 rfl ?_
  refine va_bast hx hb hK.1 hP hD hS 1 0 rfl rfl (lx_in (by decide +kernel)) dX11_putOnTape_29 (fun H locs hP hD hS => ?_)
  have hP : va_P G vwCl [(h0, .inr (10, [.ref r1, .int 1, .int (-1), .ref r2, .ref r4, .ref r6, .int (-2), .ref r7, .ref r9])), (r1, .inl (cy 0, 400, .inl (upd f_1 (1 : Int32).toNatClampNeg (vp_nar .byte (((((p0).toUInt32 >>> ((16).toUInt32 &&& Int32.toUInt32 31)).toInt32)).toInt8.toInt32)))))] H := hP
  have hD : va_D A [(h0, .inr (10, [.ref r1, .int 1, .int (-1), .ref r2, .ref r4, .ref r6, .int (-2), .ref r7, .ref r9])), (r1, .inl (cy 0, 400, .inl (upd f_1 (1 : Int32).toNatClampNeg (vp_nar .byte (((((p0).toUInt32 >>> ((16).toUInt32 &&& Int32.toUInt32 31)).toInt32)).toInt8.toInt32)))))] := hD
  generalize ef_2 : (upd f_1 (1 : Int32).toNatClampNeg (vp_nar .byte (((((p0).toUInt32 >>> ((16).toUInt32 &&& Int32.toUInt32 31)).toInt32)).toInt8.toInt32))) = f_2 at hP hD
  refine lv_aload_n hx hb dX11_putOnTape_30 rfl (lv_at hl 1 rfl) ?_
  refine lv_dup hx hb dX11_putOnTape_31 rfl ?_
  refine va_get (D := G) (ci := 10) (v := .int 1) (C := RX11) (T := TX11) (N := 9) hx hb hU in_X11 hown hK.1 hP 0 rfl rfl 1 (by decide) (hU _ u_251) (fun _ h9 => h9) rfl dX11_putOnTape_32 ?_
  refine lv_iconst (v := 1) hx hb dX11_putOnTape_35 (by decide) ?_
  refine lv_iadd hx hb dX11_putOnTape_36 (lx_top (y := 2) (by decide +kernel) ?_)
  refine va_put (D := G) (ci := 10) (v := .int 2) (ty := .int) (C := RX11) (T := TX11) (N := 9) hx hb hU in_X11 tyX11 tyX11_ok nmX11 hown hK.1 hP hD hS 0 rfl rfl 1 (by decide) (hU _ u_251) (fun _ h9 => h9) rfl (by decide +kernel) rfl rfl (Nat.le_of_ble_eq_true rfl) dX11_putOnTape_37 (fun H locs hP hD hS => ?_)
  have hP : va_P G vwCl [(h0, .inr (10, [.ref r1, .int 2, .int (-1), .ref r2, .ref r4, .ref r6, .int (-2), .ref r7, .ref r9])), (r1, .inl (cy 0, 400, .inl f_2))] H := hP
  have hD : va_D A [(h0, .inr (10, [.ref r1, .int 2, .int (-1), .ref r2, .ref r4, .ref r6, .int (-2), .ref r7, .ref r9])), (r1, .inl (cy 0, 400, .inl f_2))] := hD
  refine lv_iinc (v := 8) (lv' := [(2, .int 8), (0, .ref h0), (1, .int p0)]) hx hb dX11_putOnTape_40 hl (k := 0) rfl (by decide) (by decide) rfl (fun ls hl => ?_)
  refine lv_goto (tgt := 3) hx hb dX11_putOnTape_43 (by decide) ?_
  refine lv_iload_n hx hb dX11_putOnTape_3 rfl (lv_at hl 0 rfl) ?_
  refine lv_if_lt (tgt := 46) hx hb dX11_putOnTape_4 (by decide) (fun c9 => absurd c9 (by decide)) (fun _ => ?_)
  refine lv_aload_n hx hb dX11_putOnTape_7 rfl (lv_at hl 1 rfl) ?_
  refine va_get (D := G) (ci := 10) (v := .int 2) (C := RX11) (T := TX11) (N := 9) hx hb hU in_X11 hown hK.1 hP 0 rfl rfl 1 (by decide) (hU _ u_251) (fun _ h9 => h9) rfl dX11_putOnTape_8 ?_
  refine lv_sipush (v := 400) hx hb dX11_putOnTape_11 (by decide) ?_
  refine lv_icmp_ge (tgt := 40) hx hb dX11_putOnTape_14 (by decide) (fun c9 => absurd c9 (by decide)) (fun _ => ?_)
  refine lv_aload_n hx hb dX11_putOnTape_17 rfl (lv_at hl 1 rfl) ?_
  refine va_get (D := G) (ci := 10) (v := .ref r1) (C := RX11) (T := TX11) (N := 9) hx hb hU in_X11 hown hK.1 hP 0 rfl rfl 0 (by decide) (hU _ u_250) (fun _ h9 => h9) rfl dX11_putOnTape_18 ?_
  refine lv_aload_n hx hb dX11_putOnTape_21 rfl (lv_at hl 1 rfl) ?_
  refine va_get (D := G) (ci := 10) (v := .int 2) (C := RX11) (T := TX11) (N := 9) hx hb hU in_X11 hown hK.1 hP 0 rfl rfl 1 (by decide) (hU _ u_251) (fun _ h9 => h9) rfl dX11_putOnTape_22 ?_
  refine lv_iload_n hx hb dX11_putOnTape_25 rfl (lv_at hl 2 rfl) ?_
  refine lv_iload_n hx hb dX11_putOnTape_26 rfl (lv_at hl 0 rfl) ?_
  refine lv_iushr hx hb dX11_putOnTape_27 rfl ?_
  refine lv_i2b hx hb dX11_putOnTape_28 rfl ?_
  refine va_bast hx hb hK.1 hP hD hS 1 0 rfl rfl (lx_in (by decide +kernel)) dX11_putOnTape_29 (fun H locs hP hD hS => ?_)
  have hP : va_P G vwCl [(h0, .inr (10, [.ref r1, .int 2, .int (-1), .ref r2, .ref r4, .ref r6, .int (-2), .ref r7, .ref r9])), (r1, .inl (cy 0, 400, .inl (upd f_2 (2 : Int32).toNatClampNeg (vp_nar .byte (((((p0).toUInt32 >>> ((8).toUInt32 &&& Int32.toUInt32 31)).toInt32)).toInt8.toInt32)))))] H := hP
  have hD : va_D A [(h0, .inr (10, [.ref r1, .int 2, .int (-1), .ref r2, .ref r4, .ref r6, .int (-2), .ref r7, .ref r9])), (r1, .inl (cy 0, 400, .inl (upd f_2 (2 : Int32).toNatClampNeg (vp_nar .byte (((((p0).toUInt32 >>> ((8).toUInt32 &&& Int32.toUInt32 31)).toInt32)).toInt8.toInt32)))))] := hD
  generalize ef_3 : (upd f_2 (2 : Int32).toNatClampNeg (vp_nar .byte (((((p0).toUInt32 >>> ((8).toUInt32 &&& Int32.toUInt32 31)).toInt32)).toInt8.toInt32))) = f_3 at hP hD
  refine lv_aload_n hx hb dX11_putOnTape_30 rfl (lv_at hl 1 rfl) ?_
  refine lv_dup hx hb dX11_putOnTape_31 rfl ?_
  refine va_get (D := G) (ci := 10) (v := .int 2) (C := RX11) (T := TX11) (N := 9) hx hb hU in_X11 hown hK.1 hP 0 rfl rfl 1 (by decide) (hU _ u_251) (fun _ h9 => h9) rfl dX11_putOnTape_32 ?_
  refine lv_iconst (v := 1) hx hb dX11_putOnTape_35 (by decide) ?_
  refine lv_iadd hx hb dX11_putOnTape_36 (lx_top (y := 3) (by decide +kernel) ?_)
  refine va_put (D := G) (ci := 10) (v := .int 3) (ty := .int) (C := RX11) (T := TX11) (N := 9) hx hb hU in_X11 tyX11 tyX11_ok nmX11 hown hK.1 hP hD hS 0 rfl rfl 1 (by decide) (hU _ u_251) (fun _ h9 => h9) rfl (by decide +kernel) rfl rfl (Nat.le_of_ble_eq_true rfl) dX11_putOnTape_37 (fun H locs hP hD hS => ?_)
  have hP : va_P G vwCl [(h0, .inr (10, [.ref r1, .int 3, .int (-1), .ref r2, .ref r4, .ref r6, .int (-2), .ref r7, .ref r9])), (r1, .inl (cy 0, 400, .inl f_3))] H := hP
  have hD : va_D A [(h0, .inr (10, [.ref r1, .int 3, .int (-1), .ref r2, .ref r4, .ref r6, .int (-2), .ref r7, .ref r9])), (r1, .inl (cy 0, 400, .inl f_3))] := hD
  refine lv_iinc (v := 0) (lv' := [(2, .int 0), (0, .ref h0), (1, .int p0)]) hx hb dX11_putOnTape_40 hl (k := 0) rfl (by decide) (by decide) rfl (fun ls hl => ?_)
  refine lv_goto (tgt := 3) hx hb dX11_putOnTape_43 (by decide) ?_
  refine lv_iload_n hx hb dX11_putOnTape_3 rfl (lv_at hl 0 rfl) ?_
  refine lv_if_lt (tgt := 46) hx hb dX11_putOnTape_4 (by decide) (fun c9 => absurd c9 (by decide)) (fun _ => ?_)
  refine lv_aload_n hx hb dX11_putOnTape_7 rfl (lv_at hl 1 rfl) ?_
  refine va_get (D := G) (ci := 10) (v := .int 3) (C := RX11) (T := TX11) (N := 9) hx hb hU in_X11 hown hK.1 hP 0 rfl rfl 1 (by decide) (hU _ u_251) (fun _ h9 => h9) rfl dX11_putOnTape_8 ?_
  refine lv_sipush (v := 400) hx hb dX11_putOnTape_11 (by decide) ?_
  refine lv_icmp_ge (tgt := 40) hx hb dX11_putOnTape_14 (by decide) (fun c9 => absurd c9 (by decide)) (fun _ => ?_)
  refine lv_aload_n hx hb dX11_putOnTape_17 rfl (lv_at hl 1 rfl) ?_
  refine va_get (D := G) (ci := 10) (v := .ref r1) (C := RX11) (T := TX11) (N := 9) hx hb hU in_X11 hown hK.1 hP 0 rfl rfl 0 (by decide) (hU _ u_250) (fun _ h9 => h9) rfl dX11_putOnTape_18 ?_
  refine lv_aload_n hx hb dX11_putOnTape_21 rfl (lv_at hl 1 rfl) ?_
  refine va_get (D := G) (ci := 10) (v := .int 3) (C := RX11) (T := TX11) (N := 9) hx hb hU in_X11 hown hK.1 hP 0 rfl rfl 1 (by decide) (hU _ u_251) (fun _ h9 => h9) rfl dX11_putOnTape_22 ?_
  refine lv_iload_n hx hb dX11_putOnTape_25 rfl (lv_at hl 2 rfl) ?_
  refine lv_iload_n hx hb dX11_putOnTape_26 rfl (lv_at hl 0 rfl) ?_
  refine lv_iushr hx hb dX11_putOnTape_27 rfl ?_
  refine lv_i2b hx hb dX11_putOnTape_28 rfl ?_
  refine va_bast hx hb hK.1 hP hD hS 1 0 rfl rfl (lx_in (by decide +kernel)) dX11_putOnTape_29 (fun H locs hP hD hS => ?_)
  have hP : va_P G vwCl [(h0, .inr (10, [.ref r1, .int 3, .int (-1), .ref r2, .ref r4, .ref r6, .int (-2), .ref r7, .ref r9])), (r1, .inl (cy 0, 400, .inl (upd f_3 (3 : Int32).toNatClampNeg (vp_nar .byte (((((p0).toUInt32 >>> ((0).toUInt32 &&& Int32.toUInt32 31)).toInt32)).toInt8.toInt32)))))] H := hP
  have hD : va_D A [(h0, .inr (10, [.ref r1, .int 3, .int (-1), .ref r2, .ref r4, .ref r6, .int (-2), .ref r7, .ref r9])), (r1, .inl (cy 0, 400, .inl (upd f_3 (3 : Int32).toNatClampNeg (vp_nar .byte (((((p0).toUInt32 >>> ((0).toUInt32 &&& Int32.toUInt32 31)).toInt32)).toInt8.toInt32)))))] := hD
  generalize ef_4 : (upd f_3 (3 : Int32).toNatClampNeg (vp_nar .byte (((((p0).toUInt32 >>> ((0).toUInt32 &&& Int32.toUInt32 31)).toInt32)).toInt8.toInt32))) = f_4 at hP hD
  refine lv_aload_n hx hb dX11_putOnTape_30 rfl (lv_at hl 1 rfl) ?_
  refine lv_dup hx hb dX11_putOnTape_31 rfl ?_
  refine va_get (D := G) (ci := 10) (v := .int 3) (C := RX11) (T := TX11) (N := 9) hx hb hU in_X11 hown hK.1 hP 0 rfl rfl 1 (by decide) (hU _ u_251) (fun _ h9 => h9) rfl dX11_putOnTape_32 ?_
  refine lv_iconst (v := 1) hx hb dX11_putOnTape_35 (by decide) ?_
  refine lv_iadd hx hb dX11_putOnTape_36 (lx_top (y := 4) (by decide +kernel) ?_)
  refine va_put (D := G) (ci := 10) (v := .int 4) (ty := .int) (C := RX11) (T := TX11) (N := 9) hx hb hU in_X11 tyX11 tyX11_ok nmX11 hown hK.1 hP hD hS 0 rfl rfl 1 (by decide) (hU _ u_251) (fun _ h9 => h9) rfl (by decide +kernel) rfl rfl (Nat.le_of_ble_eq_true rfl) dX11_putOnTape_37 (fun H locs hP hD hS => ?_)
  have hP : va_P G vwCl [(h0, .inr (10, [.ref r1, .int 4, .int (-1), .ref r2, .ref r4, .ref r6, .int (-2), .ref r7, .ref r9])), (r1, .inl (cy 0, 400, .inl f_4))] H := hP
  have hD : va_D A [(h0, .inr (10, [.ref r1, .int 4, .int (-1), .ref r2, .ref r4, .ref r6, .int (-2), .ref r7, .ref r9])), (r1, .inl (cy 0, 400, .inl f_4))] := hD
  refine lv_iinc (v := (-8)) (lv' := [(2, .int (-8)), (0, .ref h0), (1, .int p0)]) hx hb dX11_putOnTape_40 hl (k := 0) rfl (by decide) (by decide) rfl (fun ls hl => ?_)
  refine lv_goto (tgt := 3) hx hb dX11_putOnTape_43 (by decide) ?_
  refine lv_iload_n hx hb dX11_putOnTape_3 rfl (lv_at hl 0 rfl) ?_
  refine lv_if_lt (tgt := 46) hx hb dX11_putOnTape_4 (by decide) (fun _ => ?_) (fun c9 => absurd (by decide) c9)
  exact kt_vret hx hb hr hlocks hP hD hS dX11_putOnTape_46 [0, 1] rfl rfl rfl rfl ⟨f_4, rfl, rfl⟩
set_option maxHeartbeats 4000000 in
set_option maxRecDepth 100000 in
theorem c_X11_putOnTape_4 (l : Launch) (G : va_G) (cy : Nat → ClassId) (h0 : Nat) (r1 : Nat) (r2 : Nat) (r4 : Nat) (r6 : Nat) (r7 : Nat) (r9 : Nat) (f0 : Nat → Int32) (p0 : Int32) : Kt l G cy yX11_putOnTape cX11_putOnTape 3 none ({ frames := 10, cells := 0, slots := 0, locals := 200 } : Room) [.ref h0, .int p0] [(h0, .inr (10, [.ref r1, .int 4, .int (-1), .ref r2, .ref r4, .ref r6, .int (-2), .ref r7, .ref r9])), (r1, .inl (cy 0, 400, .inl f0))] (fun (v : Option Value) (w1 : va_W) => ∃ (f1 : Nat → Int32), v = none ∧ w1 = [(h0, .inr (10, [.ref r1, .int 8, .int (-1), .ref r2, .ref r4, .ref r6, .int (-2), .ref r7, .ref r9])), (r1, .inl (cy 0, 400, .inl f1))]) := by
  refine kt_ofW (by decide) (Nat.le_of_ble_eq_true rfl) ?_
  intro p e s m below meth c A ls hx hb hr hU hown hlocks hml hin hP hK hD hA hS hl
  have hown : s.vm.findClass RX11 = some m.cls := hown
  have hl : lv_has ls 3 [(0, .ref h0), (1, .int p0)] := hl
  refine lv_bipush (v := 24) hx hb dX11_putOnTape_0 (by decide) ?_
  refine lv_istore_n (lv' := [(2, .int 24), (0, .ref h0), (1, .int p0)]) hx hb dX11_putOnTape_2 rfl hl (by decide) rfl (fun ls hl => ?_)
  refine lv_iload_n hx hb dX11_putOnTape_3 rfl (lv_at hl 0 rfl) ?_
  refine lv_if_lt (tgt := 46) hx hb dX11_putOnTape_4 (by decide) (fun c9 => absurd c9 (by decide)) (fun _ => ?_)
  refine lv_aload_n hx hb dX11_putOnTape_7 rfl (lv_at hl 1 rfl) ?_
  refine va_get (D := G) (ci := 10) (v := .int 4) (C := RX11) (T := TX11) (N := 9) hx hb hU in_X11 hown hK.1 hP 0 rfl rfl 1 (by decide) (hU _ u_251) (fun _ h9 => h9) rfl dX11_putOnTape_8 ?_
  refine lv_sipush (v := 400) hx hb dX11_putOnTape_11 (by decide) ?_
  refine lv_icmp_ge (tgt := 40) hx hb dX11_putOnTape_14 (by decide) (fun c9 => absurd c9 (by decide)) (fun _ => ?_)
  refine lv_aload_n hx hb dX11_putOnTape_17 rfl (lv_at hl 1 rfl) ?_
  refine va_get (D := G) (ci := 10) (v := .ref r1) (C := RX11) (T := TX11) (N := 9) hx hb hU in_X11 hown hK.1 hP 0 rfl rfl 0 (by decide) (hU _ u_250) (fun _ h9 => h9) rfl dX11_putOnTape_18 ?_
  refine lv_aload_n hx hb dX11_putOnTape_21 rfl (lv_at hl 1 rfl) ?_
  refine va_get (D := G) (ci := 10) (v := .int 4) (C := RX11) (T := TX11) (N := 9) hx hb hU in_X11 hown hK.1 hP 0 rfl rfl 1 (by decide) (hU _ u_251) (fun _ h9 => h9) rfl dX11_putOnTape_22 ?_
  refine lv_iload_n hx hb dX11_putOnTape_25 rfl (lv_at hl 2 rfl) ?_
  refine lv_iload_n hx hb dX11_putOnTape_26 rfl (lv_at hl 0 rfl) ?_
  refine lv_iushr hx hb dX11_putOnTape_27 rfl ?_
  refine lv_i2b hx hb dX11_putOnTape_28 rfl ?_
  refine va_bast hx hb hK.1 hP hD hS 1 0 rfl rfl (lx_in (by decide +kernel)) dX11_putOnTape_29 (fun H locs hP hD hS => ?_)
  have hP : va_P G vwCl [(h0, .inr (10, [.ref r1, .int 4, .int (-1), .ref r2, .ref r4, .ref r6, .int (-2), .ref r7, .ref r9])), (r1, .inl (cy 0, 400, .inl (upd f0 (4 : Int32).toNatClampNeg (vp_nar .byte (((((p0).toUInt32 >>> ((24).toUInt32 &&& Int32.toUInt32 31)).toInt32)).toInt8.toInt32)))))] H := hP
  have hD : va_D A [(h0, .inr (10, [.ref r1, .int 4, .int (-1), .ref r2, .ref r4, .ref r6, .int (-2), .ref r7, .ref r9])), (r1, .inl (cy 0, 400, .inl (upd f0 (4 : Int32).toNatClampNeg (vp_nar .byte (((((p0).toUInt32 >>> ((24).toUInt32 &&& Int32.toUInt32 31)).toInt32)).toInt8.toInt32)))))] := hD
  generalize ef_1 : (upd f0 (4 : Int32).toNatClampNeg (vp_nar .byte (((((p0).toUInt32 >>> ((24).toUInt32 &&& Int32.toUInt32 31)).toInt32)).toInt8.toInt32))) = f_1 at hP hD
  refine lv_aload_n hx hb dX11_putOnTape_30 rfl (lv_at hl 1 rfl) ?_
  refine lv_dup hx hb dX11_putOnTape_31 rfl ?_
  refine va_get (D := G) (ci := 10) (v := .int 4) (C := RX11) (T := TX11) (N := 9) hx hb hU in_X11 hown hK.1 hP 0 rfl rfl 1 (by decide) (hU _ u_251) (fun _ h9 => h9) rfl dX11_putOnTape_32 ?_
  refine lv_iconst (v := 1) hx hb dX11_putOnTape_35 (by decide) ?_
  refine lv_iadd hx hb dX11_putOnTape_36 (lx_top (y := 5) (by decide +kernel) ?_)
  refine va_put (D := G) (ci := 10) (v := .int 5) (ty := .int) (C := RX11) (T := TX11) (N := 9) hx hb hU in_X11 tyX11 tyX11_ok nmX11 hown hK.1 hP hD hS 0 rfl rfl 1 (by decide) (hU _ u_251) (fun _ h9 => h9) rfl (by decide +kernel) rfl rfl (Nat.le_of_ble_eq_true rfl) dX11_putOnTape_37 (fun H locs hP hD hS => ?_)
  have hP : va_P G vwCl [(h0, .inr (10, [.ref r1, .int 5, .int (-1), .ref r2, .ref r4, .ref r6, .int (-2), .ref r7, .ref r9])), (r1, .inl (cy 0, 400, .inl f_1))] H := hP
  have hD : va_D A [(h0, .inr (10, [.ref r1, .int 5, .int (-1), .ref r2, .ref r4, .ref r6, .int (-2), .ref r7, .ref r9])), (r1, .inl (cy 0, 400, .inl f_1))] := hD
  refine lv_iinc (v := 16) (lv' := [(2, .int 16), (0, .ref h0), (1, .int p0)]) hx hb dX11_putOnTape_40 hl (k := 0) rfl (by decide) (by decide) rfl (fun ls hl => ?_)
  refine lv_goto (tgt := 3) hx hb dX11_putOnTape_43 (by decide) ?_
  refine lv_iload_n hx hb dX11_putOnTape_3 rfl (lv_at hl 0 rfl) ?_
  refine lv_if_lt (tgt := 46) hx hb dX11_putOnTape_4 (by decide) (fun c9 => absurd c9 (by decide)) (fun _ => ?_)
  refine lv_aload_n hx hb dX11_putOnTape_7 rfl (lv_at hl 1 rfl) ?_
  refine va_get (D := G) (ci := 10) (v := .int 5) (C := RX11) (T := TX11) (N := 9) hx hb hU in_X11 hown hK.1 hP 0 rfl rfl 1 (by decide) (hU _ u_251) (fun _ h9 => h9) rfl dX11_putOnTape_8 ?_
  refine lv_sipush (v := 400) hx hb dX11_putOnTape_11 (by decide) ?_
  refine lv_icmp_ge (tgt := 40) hx hb dX11_putOnTape_14 (by decide) (fun c9 => absurd c9 (by decide)) (fun _ => ?_)
  refine lv_aload_n hx hb dX11_putOnTape_17 rfl (lv_at hl 1 rfl) ?_
  refine va_get (D := G) (ci := 10) (v := .ref r1) (C := RX11) (T := TX11) (N := 9) hx hb hU in_X11 hown hK.1 hP 0 rfl rfl 0 (by decide) (hU _ u_250) (fun _ h9 => h9) rfl dX11_putOnTape_18 ?_
  refine lv_aload_n hx hb dX11_putOnTape_21 rfl (lv_at hl 1 rfl) ?_
  refine va_get (D := G) (ci := 10) (v := .int 5) (C := RX11) (T := TX11) (N := 9) hx hb hU in_X11 hown hK.1 hP 0 rfl rfl 1 (by decide) (hU _ u_251) (fun _ h9 => h9) rfl dX11_putOnTape_22 ?_
  refine lv_iload_n hx hb dX11_putOnTape_25 rfl (lv_at hl 2 rfl) ?_
  refine lv_iload_n hx hb dX11_putOnTape_26 rfl (lv_at hl 0 rfl) ?_
  refine lv_iushr hx hb dX11_putOnTape_27 rfl ?_
  refine lv_i2b hx hb dX11_putOnTape_28 rfl ?_
  refine va_bast hx hb hK.1 hP hD hS 1 0 rfl rfl (lx_in (by decide +kernel)) dX11_putOnTape_29 (fun H locs hP hD hS => ?_)
  have hP : va_P G vwCl [(h0, .inr (10, [.ref r1, .int 5, .int (-1), .ref r2, .ref r4, .ref r6, .int (-2), .ref r7, .ref r9])), (r1, .inl (cy 0, 400, .inl (upd f_1 (5 : Int32).toNatClampNeg (vp_nar .byte (((((p0).toUInt32 >>> ((16).toUInt32 &&& Int32.toUInt32 31)).toInt32)).toInt8.toInt32)))))] H := hP
  have hD : va_D A [(h0, .inr (10, [.ref r1, .int 5, .int (-1), .ref r2, .ref r4, .ref r6, .int (-2), .ref r7, .ref r9])), (r1, .inl (cy 0, 400, .inl (upd f_1 (5 : Int32).toNatClampNeg (vp_nar .byte (((((p0).toUInt32 >>> ((16).toUInt32 &&& Int32.toUInt32 31)).toInt32)).toInt8.toInt32)))))] := hD
  generalize ef_2 : (upd f_1 (5 : Int32).toNatClampNeg (vp_nar .byte (((((p0).toUInt32 >>> ((16).toUInt32 &&& Int32.toUInt32 31)).toInt32)).toInt8.toInt32))) = f_2 at hP hD
  refine lv_aload_n hx hb dX11_putOnTape_30 rfl (lv_at hl 1 rfl) ?_
  refine lv_dup hx hb dX11_putOnTape_31 rfl ?_
  refine va_get (D := G) (ci := 10) (v := .int 5) (C := RX11) (T := TX11) (N := 9) hx hb hU in_X11 hown hK.1 hP 0 rfl rfl 1 (by decide) (hU _ u_251) (fun _ h9 => h9) rfl dX11_putOnTape_32 ?_
  refine lv_iconst (v := 1) hx hb dX11_putOnTape_35 (by decide) ?_
  refine lv_iadd hx hb dX11_putOnTape_36 (lx_top (y := 6) (by decide +kernel) ?_)
  refine va_put (D := G) (ci := 10) (v := .int 6) (ty := .int) (C := RX11) (T := TX11) (N := 9) hx hb hU in_X11 tyX11 tyX11_ok nmX11 hown hK.1 hP hD hS 0 rfl rfl 1 (by decide) (hU _ u_251) (fun _ h9 => h9) rfl (by decide +kernel) rfl rfl (Nat.le_of_ble_eq_true rfl) dX11_putOnTape_37 (fun H locs hP hD hS => ?_)
  have hP : va_P G vwCl [(h0, .inr (10, [.ref r1, .int 6, .int (-1), .ref r2, .ref r4, .ref r6, .int (-2), .ref r7, .ref r9])), (r1, .inl (cy 0, 400, .inl f_2))] H := hP
  have hD : va_D A [(h0, .inr (10, [.ref r1, .int 6, .int (-1), .ref r2, .ref r4, .ref r6, .int (-2), .ref r7, .ref r9])), (r1, .inl (cy 0, 400, .inl f_2))] := hD
  refine lv_iinc (v := 8) (lv' := [(2, .int 8), (0, .ref h0), (1, .int p0)]) hx hb dX11_putOnTape_40 hl (k := 0) rfl (by decide) (by decide) rfl (fun ls hl => ?_)
  refine lv_goto (tgt := 3) hx hb dX11_putOnTape_43 (by decide) ?_
  refine lv_iload_n hx hb dX11_putOnTape_3 rfl (lv_at hl 0 rfl) ?_
  refine lv_if_lt (tgt := 46) hx hb dX11_putOnTape_4 (by decide) (fun c9 => absurd c9 (by decide)) (fun _ => ?_)
  refine lv_aload_n hx hb dX11_putOnTape_7 rfl (lv_at hl 1 rfl) ?_
  refine va_get (D := G) (ci := 10) (v := .int 6) (C := RX11) (T := TX11) (N := 9) hx hb hU in_X11 hown hK.1 hP 0 rfl rfl 1 (by decide) (hU _ u_251) (fun _ h9 => h9) rfl dX11_putOnTape_8 ?_
  refine lv_sipush (v := 400) hx hb dX11_putOnTape_11 (by decide) ?_
  refine lv_icmp_ge (tgt := 40) hx hb dX11_putOnTape_14 (by decide) (fun c9 => absurd c9 (by decide)) (fun _ => ?_)
  refine lv_aload_n hx hb dX11_putOnTape_17 rfl (lv_at hl 1 rfl) ?_
  refine va_get (D := G) (ci := 10) (v := .ref r1) (C := RX11) (T := TX11) (N := 9) hx hb hU in_X11 hown hK.1 hP 0 rfl rfl 0 (by decide) (hU _ u_250) (fun _ h9 => h9) rfl dX11_putOnTape_18 ?_
  refine lv_aload_n hx hb dX11_putOnTape_21 rfl (lv_at hl 1 rfl) ?_
  refine va_get (D := G) (ci := 10) (v := .int 6) (C := RX11) (T := TX11) (N := 9) hx hb hU in_X11 hown hK.1 hP 0 rfl rfl 1 (by decide) (hU _ u_251) (fun _ h9 => h9) rfl dX11_putOnTape_22 ?_
  refine lv_iload_n hx hb dX11_putOnTape_25 rfl (lv_at hl 2 rfl) ?_
  refine lv_iload_n hx hb dX11_putOnTape_26 rfl (lv_at hl 0 rfl) ?_
  refine lv_iushr hx hb dX11_putOnTape_27 rfl ?_
  refine lv_i2b hx hb dX11_putOnTape_28 rfl ?_
  refine va_bast hx hb hK.1 hP hD hS 1 0 rfl rfl (lx_in (by decide +kernel)) dX11_putOnTape_29 (fun H locs hP hD hS => ?_)
  have hP : va_P G vwCl [(h0, .inr (10, [.ref r1, .int 6, .int (-1), .ref r2, .ref r4, .ref r6, .int (-2), .ref r7, .ref r9])), (r1, .inl (cy 0, 400, .inl (upd f_2 (6 : Int32).toNatClampNeg (vp_nar .byte (((((p0).toUInt32 >>> ((8).toUInt32 &&& Int32.toUInt32 31)).toInt32)).toInt8.toInt32)))))] H := hP
  have hD : va_D A [(h0, .inr (10, [.ref r1, .int 6, .int (-1), .ref r2, .ref r4, .ref r6, .int (-2), .ref r7, .ref r9])), (r1, .inl (cy 0, 400, .inl (upd f_2 (6 : Int32).toNatClampNeg (vp_nar .byte (((((p0).toUInt32 >>> ((8).toUInt32 &&& Int32.toUInt32 31)).toInt32)).toInt8.toInt32)))))] := hD
  generalize ef_3 : (upd f_2 (6 : Int32).toNatClampNeg (vp_nar .byte (((((p0).toUInt32 >>> ((8).toUInt32 &&& Int32.toUInt32 31)).toInt32)).toInt8.toInt32))) = f_3 at hP hD
  refine lv_aload_n hx hb dX11_putOnTape_30 rfl (lv_at hl 1 rfl) ?_
  refine lv_dup hx hb dX11_putOnTape_31 rfl ?_
  refine va_get (D := G) (ci := 10) (v := .int 6) (C := RX11) (T := TX11) (N := 9) hx hb hU in_X11 hown hK.1 hP 0 rfl rfl 1 (by decide) (hU _ u_251) (fun _ h9 => h9) rfl dX11_putOnTape_32 ?_
  refine lv_iconst (v := 1) hx hb dX11_putOnTape_35 (by decide) ?_
  refine lv_iadd hx hb dX11_putOnTape_36 (lx_top (y := 7) (by decide +kernel) ?_)
  refine va_put (D := G) (ci := 10) (v := .int 7) (ty := .int) (C := RX11) (T := TX11) (N := 9) hx hb hU in_X11 tyX11 tyX11_ok nmX11 hown hK.1 hP hD hS 0 rfl rfl 1 (by decide) (hU _ u_251) (fun _ h9 => h9) rfl (by decide +kernel) rfl rfl (Nat.le_of_ble_eq_true rfl) dX11_putOnTape_37 (fun H locs hP hD hS => ?_)
  have hP : va_P G vwCl [(h0, .inr (10, [.ref r1, .int 7, .int (-1), .ref r2, .ref r4, .ref r6, .int (-2), .ref r7, .ref r9])), (r1, .inl (cy 0, 400, .inl f_3))] H := hP
  have hD : va_D A [(h0, .inr (10, [.ref r1, .int 7, .int (-1), .ref r2, .ref r4, .ref r6, .int (-2), .ref r7, .ref r9])), (r1, .inl (cy 0, 400, .inl f_3))] := hD
  refine lv_iinc (v := 0) (lv' := [(2, .int 0), (0, .ref h0), (1, .int p0)]) hx hb dX11_putOnTape_40 hl (k := 0) rfl (by decide) (by decide) rfl (fun ls hl => ?_)
  refine lv_goto (tgt := 3) hx hb dX11_putOnTape_43 (by decide) ?_
  refine lv_iload_n hx hb dX11_putOnTape_3 rfl (lv_at hl 0 rfl) ?_
  refine lv_if_lt (tgt := 46) hx hb dX11_putOnTape_4 (by decide) (fun c9 => absurd c9 (by decide)) (fun _ => ?_)
  refine lv_aload_n hx hb dX11_putOnTape_7 rfl (lv_at hl 1 rfl) ?_
  refine va_get (D := G) (ci := 10) (v := .int 7) (C := RX11) (T := TX11) (N := 9) hx hb hU in_X11 hown hK.1 hP 0 rfl rfl 1 (by decide) (hU _ u_251) (fun _ h9 => h9) rfl dX11_putOnTape_8 ?_
  refine lv_sipush (v := 400) hx hb dX11_putOnTape_11 (by decide) ?_
  refine lv_icmp_ge (tgt := 40) hx hb dX11_putOnTape_14 (by decide) (fun c9 => absurd c9 (by decide)) (fun _ => ?_)
  refine lv_aload_n hx hb dX11_putOnTape_17 rfl (lv_at hl 1 rfl) ?_
  refine va_get (D := G) (ci := 10) (v := .ref r1) (C := RX11) (T := TX11) (N := 9) hx hb hU in_X11 hown hK.1 hP 0 rfl rfl 0 (by decide) (hU _ u_250) (fun _ h9 => h9) rfl dX11_putOnTape_18 ?_
  refine lv_aload_n hx hb dX11_putOnTape_21 rfl (lv_at hl 1 rfl) ?_
  refine va_get (D := G) (ci := 10) (v := .int 7) (C := RX11) (T := TX11) (N := 9) hx hb hU in_X11 hown hK.1 hP 0 rfl rfl 1 (by decide) (hU _ u_251) (fun _ h9 => h9) rfl dX11_putOnTape_22 ?_
  refine lv_iload_n hx hb dX11_putOnTape_25 rfl (lv_at hl 2 rfl) ?_
  refine lv_iload_n hx hb dX11_putOnTape_26 rfl (lv_at hl 0 rfl) ?_
  refine lv_iushr hx hb dX11_putOnTape_27 rfl ?_
  refine lv_i2b hx hb dX11_putOnTape_28 rfl ?_
  refine va_bast hx hb hK.1 hP hD hS 1 0 rfl rfl (lx_in (by decide +kernel)) dX11_putOnTape_29 (fun H locs hP hD hS => ?_)
  have hP : va_P G vwCl [(h0, .inr (10, [.ref r1, .int 7, .int (-1), .ref r2, .ref r4, .ref r6, .int (-2), .ref r7, .ref r9])), (r1, .inl (cy 0, 400, .inl (upd f_3 (7 : Int32).toNatClampNeg (vp_nar .byte (((((p0).toUInt32 >>> ((0).toUInt32 &&& Int32.toUInt32 31)).toInt32)).toInt8.toInt32)))))] H := hP
  have hD : va_D A [(h0, .inr (10, [.ref r1, .int 7, .int (-1), .ref r2, .ref r4, .ref r6, .int (-2), .ref r7, .ref r9])), (r1, .inl (cy 0, 400, .inl (upd f_3 (7 : Int32).toNatClampNeg (vp_nar .byte (((((p0).toUInt32 >>> ((0).toUInt32 &&& Int32.toUInt32 31)).toInt32)).toInt8.toInt32)))))] := hD
  generalize ef_4 : (upd f_3 (7 : Int32).toNatClampNeg (vp_nar .byte (((((p0).toUInt32 >>> ((0).toUInt32 &&& Int32.toUInt32 31)).toInt32)).toInt8.toInt32))) = f_4 at hP hD
  refine lv_aload_n hx hb dX11_putOnTape_30 rfl (lv_at hl 1 rfl) ?_
  refine lv_dup hx hb dX11_putOnTape_31 rfl ?_
  refine va_get (D := G) (ci := 10) (v := .int 7) (C := RX11) (T := TX11) (N := 9) hx hb hU in_X11 hown hK.1 hP 0 rfl rfl 1 (by decide) (hU _ u_251) (fun _ h9 => h9) rfl dX11_putOnTape_32 ?_
  refine lv_iconst (v := 1) hx hb dX11_putOnTape_35 (by decide) ?_
  refine lv_iadd hx hb dX11_putOnTape_36 (lx_top (y := 8) (by decide +kernel) ?_)
  refine va_put (D := G) (ci := 10) (v := .int 8) (ty := .int) (C := RX11) (T := TX11) (N := 9) hx hb hU in_X11 tyX11 tyX11_ok nmX11 hown hK.1 hP hD hS 0 rfl rfl 1 (by decide) (hU _ u_251) (fun _ h9 => h9) rfl (by decide +kernel) rfl rfl (Nat.le_of_ble_eq_true rfl) dX11_putOnTape_37 (fun H locs hP hD hS => ?_)
  have hP : va_P G vwCl [(h0, .inr (10, [.ref r1, .int 8, .int (-1), .ref r2, .ref r4, .ref r6, .int (-2), .ref r7, .ref r9])), (r1, .inl (cy 0, 400, .inl f_4))] H := hP
  have hD : va_D A [(h0, .inr (10, [.ref r1, .int 8, .int (-1), .ref r2, .ref r4, .ref r6, .int (-2), .ref r7, .ref r9])), (r1, .inl (cy 0, 400, .inl f_4))] := hD
  refine lv_iinc (v := (-8)) (lv' := [(2, .int (-8)), (0, .ref h0), (1, .int p0)]) hx hb dX11_putOnTape_40 hl (k := 0) rfl (by decide) (by decide) rfl (fun ls hl => ?_)
  refine lv_goto (tgt := 3) hx hb dX11_putOnTape_43 (by decide) ?_
  refine lv_iload_n hx hb dX11_putOnTape_3 rfl (lv_at hl 0 rfl) ?_
  refine lv_if_lt (tgt := 46) hx hb dX11_putOnTape_4 (by decide) (fun _ => ?_) (fun c9 => absurd (by decide) c9)
  exact kt_vret hx hb hr hlocks hP hD hS dX11_putOnTape_46 [0, 1] rfl rfl rfl rfl ⟨f_4, rfl, rfl⟩
set_option maxHeartbeats 4000000 in
set_option maxRecDepth 100000 in
theorem c_X11_putOnTape_8 (l : Launch) (G : va_G) (cy : Nat → ClassId) (h0 : Nat) (r1 : Nat) (r2 : Nat) (r4 : Nat) (r6 : Nat) (r7 : Nat) (r9 : Nat) (f0 : Nat → Int32) (p0 : Int32) : Kt l G cy yX11_putOnTape cX11_putOnTape 3 none ({ frames := 10, cells := 0, slots := 0, locals := 200 } : Room) [.ref h0, .int p0] [(h0, .inr (10, [.ref r1, .int 8, .int (-1), .ref r2, .ref r4, .ref r6, .int (-2), .ref r7, .ref r9])), (r1, .inl (cy 0, 400, .inl f0))] (fun (v : Option Value) (w1 : va_W) => ∃ (f1 : Nat → Int32), v = none ∧ w1 = [(h0, .inr (10, [.ref r1, .int 12, .int (-1), .ref r2, .ref r4, .ref r6, .int (-2), .ref r7, .ref r9])), (r1, .inl (cy 0, 400, .inl f1))]) := by
  refine kt_ofW (by decide) (Nat.le_of_ble_eq_true rfl) ?_
  intro p e s m below meth c A ls hx hb hr hU hown hlocks hml hin hP hK hD hA hS hl
  have hown : s.vm.findClass RX11 = some m.cls := hown
  have hl : lv_has ls 3 [(0, .ref h0), (1, .int p0)] := hl
  refine lv_bipush (v := 24) hx hb dX11_putOnTape_0 (by decide) ?_
  refine lv_istore_n (lv' := [(2, .int 24), (0, .ref h0), (1, .int p0)]) hx hb dX11_putOnTape_2 rfl hl (by decide) rfl (fun ls hl => ?_)
  refine lv_iload_n hx hb dX11_putOnTape_3 rfl (lv_at hl 0 rfl) ?_
  refine lv_if_lt (tgt := 46) hx hb dX11_putOnTape_4 (by decide) (fun c9 => absurd c9 (by decide)) (fun _ => ?_)
  refine lv_aload_n hx hb dX11_putOnTape_7 rfl (lv_at hl 1 rfl) ?_
  refine va_get (D := G) (ci := 10) (v := .int 8) (C := RX11) (T := TX11) (N := 9) hx hb hU in_X11 hown hK.1 hP 0 rfl rfl 1 (by decide) (hU _ u_251) (fun _ h9 => h9) rfl dX11_putOnTape_8 ?_
  refine lv_sipush (v := 400) hx hb dX11_putOnTape_11 (by decide) ?_
  refine lv_icmp_ge (tgt := 40) hx hb dX11_putOnTape_14 (by decide) (fun c9 => absurd c9 (by decide)) (fun _ => ?_)
  refine lv_aload_n hx hb dX11_putOnTape_17 rfl (lv_at hl 1 rfl) ?_
  refine va_get (D := G) (ci := 10) (v := .ref r1) (C := RX11) (T := TX11) (N := 9) hx hb hU in_X11 hown hK.1 hP 0 rfl rfl 0 (by decide) (hU _ u_250) (fun _ h9 => h9) rfl dX11_putOnTape_18 ?_
  refine lv_aload_n hx hb dX11_putOnTape_21 rfl (lv_at hl 1 rfl) ?_
  refine va_get (D := G) (ci := 10) (v := .int 8) (C := RX11) (T := TX11) (N := 9) hx hb hU in_X11 hown hK.1 hP 0 rfl rfl 1 (by decide) (hU _ u_251) (fun _ h9 => h9) rfl dX11_putOnTape_22 ?_
  refine lv_iload_n hx hb dX11_putOnTape_25 rfl (lv_at hl 2 rfl) ?_
  refine lv_iload_n hx hb dX11_putOnTape_26 rfl (lv_at hl 0 rfl) ?_
  refine lv_iushr hx hb dX11_putOnTape_27 rfl ?_
  refine lv_i2b hx hb dX11_putOnTape_28 rfl ?_
  refine va_bast hx hb hK.1 hP hD hS 1 0 rfl rfl (lx_in (by decide +kernel)) dX11_putOnTape_29 (fun H locs hP hD hS => ?_)
  have hP : va_P G vwCl [(h0, .inr (10, [.ref r1, .int 8, .int (-1), .ref r2, .ref r4, .ref r6, .int (-2), .ref r7, .ref r9])), (r1, .inl (cy 0, 400, .inl (upd f0 (8 : Int32).toNatClampNeg (vp_nar .byte (((((p0).toUInt32 >>> ((24).toUInt32 &&& Int32.toUInt32 31)).toInt32)).toInt8.toInt32)))))] H := hP
  have hD : va_D A [(h0, .inr (10, [.ref r1, .int 8, .int (-1), .ref r2, .ref r4, .ref r6, .int (-2), .ref r7, .ref r9])), (r1, .inl (cy 0, 400, .inl (upd f0 (8 : Int32).toNatClampNeg (vp_nar .byte (((((p0).toUInt32 >>> ((24).toUInt32 &&& Int32.toUInt32 31)).toInt32)).toInt8.toInt32)))))] := hD
  generalize ef_1 : (upd f0 (8 : Int32).toNatClampNeg (vp_nar .byte (((((p0).toUInt32 >>> ((24).toUInt32 &&& Int32.toUInt32 31)).toInt32)).toInt8.toInt32))) = f_1 at hP hD
  refine lv_aload_n hx hb dX11_putOnTape_30 rfl (lv_at hl 1 rfl) ?_
  refine lv_dup hx hb dX11_putOnTape_31 rfl ?_
  refine va_get (D := G) (ci := 10) (v := .int 8) (C := RX11) (T := TX11) (N := 9) hx hb hU in_X11 hown hK.1 hP 0 rfl rfl 1 (by decide) (hU _ u_251) (fun _ h9 => h9) rfl dX11_putOnTape_32 ?_
  refine lv_iconst (v := 1) hx hb dX11_putOnTape_35 (by decide) ?_
  refine lv_iadd hx hb dX11_putOnTape_36 (lx_top (y := 9) (by decide +kernel) ?_)
  refine va_put (D := G) (ci := 10) (v := .int 9) (ty := .int) (C := RX11) (T := TX11) (N := 9) hx hb hU in_X11 tyX11 tyX11_ok nmX11 hown hK.1 hP hD hS 0 rfl rfl 1 (by decide) (hU _ u_251) (fun _ h9 => h9) rfl (by decide +kernel) rfl rfl (Nat.le_of_ble_eq_true rfl) dX11_putOnTape_37 (fun H locs hP hD hS => ?_)
  have hP : va_P G vwCl [(h0, .inr (10, [.ref r1, .int 9, .int (-1), .ref r2, .ref r4, .ref r6, .int (-2), .ref r7, .ref r9])), (r1, .inl (cy 0, 400, .inl f_1))] H := hP
  have hD : va_D A [(h0, .inr (10, [.ref r1, .int 9, .int (-1), .ref r2, .ref r4, .ref r6, .int (-2), .ref r7, .ref r9])), (r1, .inl (cy 0, 400, .inl f_1))] := hD
  refine lv_iinc (v := 16) (lv' := [(2, .int 16), (0, .ref h0), (1, .int p0)]) hx hb dX11_putOnTape_40 hl (k := 0) rfl (by decide) (by decide) rfl (fun ls hl => ?_)
  refine lv_goto (tgt := 3) hx hb dX11_putOnTape_43 (by decide) ?_
  refine lv_iload_n hx hb dX11_putOnTape_3 rfl (lv_at hl 0 rfl) ?_
  refine lv_if_lt (tgt := 46) hx hb dX11_putOnTape_4 (by decide) (fun c9 => absurd c9 (by decide)) (fun _ => ?_)
  refine lv_aload_n hx hb dX11_putOnTape_7 rfl (lv_at hl 1 rfl) ?_
  refine va_get (D := G) (ci := 10) (v := .int 9) (C := RX11) (T := TX11) (N := 9) hx hb hU in_X11 hown hK.1 hP 0 rfl rfl 1 (by decide) (hU _ u_251) (fun _ h9 => h9) rfl dX11_putOnTape_8 ?_
  refine lv_sipush (v := 400) hx hb dX11_putOnTape_11 (by decide) ?_
  refine lv_icmp_ge (tgt := 40) hx hb dX11_putOnTape_14 (by decide) (fun c9 => absurd c9 (by decide)) (fun _ => ?_)
  refine lv_aload_n hx hb dX11_putOnTape_17 rfl (lv_at hl 1 rfl) ?_
  refine va_get (D := G) (ci := 10) (v := .ref r1) (C := RX11) (T := TX11) (N := 9) hx hb hU in_X11 hown hK.1 hP 0 rfl rfl 0 (by decide) (hU _ u_250) (fun _ h9 => h9) rfl dX11_putOnTape_18 ?_
  refine lv_aload_n hx hb dX11_putOnTape_21 rfl (lv_at hl 1 rfl) ?_
  refine va_get (D := G) (ci := 10) (v := .int 9) (C := RX11) (T := TX11) (N := 9) hx hb hU in_X11 hown hK.1 hP 0 rfl rfl 1 (by decide) (hU _ u_251) (fun _ h9 => h9) rfl dX11_putOnTape_22 ?_
  refine lv_iload_n hx hb dX11_putOnTape_25 rfl (lv_at hl 2 rfl) ?_
  refine lv_iload_n hx hb dX11_putOnTape_26 rfl (lv_at hl 0 rfl) ?_
  refine lv_iushr hx hb dX11_putOnTape_27 rfl ?_
  refine lv_i2b hx hb dX11_putOnTape_28 rfl ?_
  refine va_bast hx hb hK.1 hP hD hS 1 0 rfl rfl (lx_in (by decide +kernel)) dX11_putOnTape_29 (fun H locs hP hD hS => ?_)
  have hP : va_P G vwCl [(h0, .inr (10, [.ref r1, .int 9, .int (-1), .ref r2, .ref r4, .ref r6, .int (-2), .ref r7, .ref r9])), (r1, .inl (cy 0, 400, .inl (upd f_1 (9 : Int32).toNatClampNeg (vp_nar .byte (((((p0).toUInt32 >>> ((16).toUInt32 &&& Int32.toUInt32 31)).toInt32)).toInt8.toInt32)))))] H := hP
  have hD : va_D A [(h0, .inr (10, [.ref r1, .int 9, .int (-1), .ref r2, .ref r4, .ref r6, .int (-2), .ref r7, .ref r9])), (r1, .inl (cy 0, 400, .inl (upd f_1 (9 : Int32).toNatClampNeg (vp_nar .byte (((((p0).toUInt32 >>> ((16).toUInt32 &&& Int32.toUInt32 31)).toInt32)).toInt8.toInt32)))))] := hD
  generalize ef_2 : (upd f_1 (9 : Int32).toNatClampNeg (vp_nar .byte (((((p0).toUInt32 >>> ((16).toUInt32 &&& Int32.toUInt32 31)).toInt32)).toInt8.toInt32))) = f_2 at hP hD
  refine lv_aload_n hx hb dX11_putOnTape_30 rfl (lv_at hl 1 rfl) ?_
  refine lv_dup hx hb dX11_putOnTape_31 rfl ?_
  refine va_get (D := G) (ci := 10) (v := .int 9) (C := RX11) (T := TX11) (N := 9) hx hb hU in_X11 hown hK.1 hP 0 rfl rfl 1 (by decide) (hU _ u_251) (fun _ h9 => h9) rfl dX11_putOnTape_32 ?_
  refine lv_iconst (v := 1) hx hb dX11_putOnTape_35 (by decide) ?_
  refine lv_iadd hx hb dX11_putOnTape_36 (lx_top (y := 10) (by decide +kernel) ?_)
  refine va_put (D := G) (ci := 10) (v := .int 10) (ty := .int) (C := RX11) (T := TX11) (N := 9) hx hb hU in_X11 tyX11 tyX11_ok nmX11 hown hK.1 hP hD hS 0 rfl rfl 1 (by decide) (hU _ u_251) (fun _ h9 => h9) rfl (by decide +kernel) rfl rfl (Nat.le_of_ble_eq_true rfl) dX11_putOnTape_37 (fun H locs hP hD hS => ?_)
  have hP : va_P G vwCl [(h0, .inr (10, [.ref r1, .int 10, .int (-1), .ref r2, .ref r4, .ref r6, .int (-2), .ref r7, .ref r9])), (r1, .inl (cy 0, 400, .inl f_2))] H := hP
  have hD : va_D A [(h0, .inr (10, [.ref r1, .int 10, .int (-1), .ref r2, .ref r4, .ref r6, .int (-2), .ref r7, .ref r9])), (r1, .inl (cy 0, 400, .inl f_2))] := hD
  refine lv_iinc (v := 8) (lv' := [(2, .int 8), (0, .ref h0), (1, .int p0)]) hx hb dX11_putOnTape_40 hl (k := 0) rfl (by decide) (by decide) rfl (fun ls hl => ?_)
  refine lv_goto (tgt := 3) hx hb dX11_putOnTape_43 (by decide) ?_
  refine lv_iload_n hx hb dX11_putOnTape_3 rfl (lv_at hl 0 rfl) ?_
  refine lv_if_lt (tgt := 46) hx hb dX11_putOnTape_4 (by decide) (fun c9 => absurd c9 (by decide)) (fun _ => ?_)
  refine lv_aload_n hx hb dX11_putOnTape_7 rfl (lv_at hl 1 rfl) ?_
  refine va_get (D := G) (ci := 10) (v := .int 10) (C := RX11) (T := TX11) (N := 9) hx hb hU in_X11 hown hK.1 hP 0 rfl rfl 1 (by decide) (hU _ u_251) (fun _ h9 => h9) rfl dX11_putOnTape_8 ?_
  refine lv_sipush (v := 400) hx hb dX11_putOnTape_11 (by decide) ?_
  refine lv_icmp_ge (tgt := 40) hx hb dX11_putOnTape_14 (by decide) (fun c9 => absurd c9 (by decide)) (fun _ => ?_)
  refine lv_aload_n hx hb dX11_putOnTape_17 rfl (lv_at hl 1 rfl) ?_
  refine va_get (D := G) (ci := 10) (v := .ref r1) (C := RX11) (T := TX11) (N := 9) hx hb hU in_X11 hown hK.1 hP 0 rfl rfl 0 (by decide) (hU _ u_250) (fun _ h9 => h9) rfl dX11_putOnTape_18 ?_
  refine lv_aload_n hx hb dX11_putOnTape_21 rfl (lv_at hl 1 rfl) ?_
  refine va_get (D := G) (ci := 10) (v := .int 10) (C := RX11) (T := TX11) (N := 9) hx hb hU in_X11 hown hK.1 hP 0 rfl rfl 1 (by decide) (hU _ u_251) (fun _ h9 => h9) rfl dX11_putOnTape_22 ?_
  refine lv_iload_n hx hb dX11_putOnTape_25 rfl (lv_at hl 2 rfl) ?_
  refine lv_iload_n hx hb dX11_putOnTape_26 rfl (lv_at hl 0 rfl) ?_
  refine lv_iushr hx hb dX11_putOnTape_27 rfl ?_
  refine lv_i2b hx hb dX11_putOnTape_28 rfl ?_
  refine va_bast hx hb hK.1 hP hD hS 1 0 rfl rfl (lx_in (by decide +kernel)) dX11_putOnTape_29 (fun H locs hP hD hS => ?_)
  have hP : va_P G vwCl [(h0, .inr (10, [.ref r1, .int 10, .int (-1), .ref r2, .ref r4, .ref r6, .int (-2), .ref r7, .ref r9])), (r1, .inl (cy 0, 400, .inl (upd f_2 (10 : Int32).toNatClampNeg (vp_nar .byte (((((p0).toUInt32 >>> ((8).toUInt32 &&& Int32.toUInt32 31)).toInt32)).toInt8.toInt32)))))] H := hP
  have hD : va_D A [(h0, .inr (10, [.ref r1, .int 10, .int (-1), .ref r2, .ref r4, .ref r6, .int (-2), .ref r7, .ref r9])), (r1, .inl (cy 0, 400, .inl (upd f_2 (10 : Int32).toNatClampNeg (vp_nar .byte (((((p0).toUInt32 >>> ((8).toUInt32 &&& Int32.toUInt32 31)).toInt32)).toInt8.toInt32)))))] := hD
  generalize ef_3 : (upd f_2 (10 : Int32).toNatClampNeg (vp_nar .byte (((((p0).toUInt32 >>> ((8).toUInt32 &&& Int32.toUInt32 31)).toInt32)).toInt8.toInt32))) = f_3 at hP hD
  refine lv_aload_n hx hb dX11_putOnTape_30 rfl (lv_at hl 1 rfl) ?_
  refine lv_dup hx hb dX11_putOnTape_31 rfl ?_
  refine va_get (D := G) (ci := 10) (v := .int 10) (C := RX11) (T := TX11) (N := 9) hx hb hU in_X11 hown hK.1 hP 0 rfl rfl 1 (by decide) (hU _ u_251) (fun _ h9 => h9) rfl dX11_putOnTape_32 ?_
  refine lv_iconst (v := 1) hx hb dX11_putOnTape_35 (by decide) ?_
  refine lv_iadd hx hb dX11_putOnTape_36 (lx_top (y := 11) (by decide +kernel) ?_)
  refine va_put (D := G) (ci := 10) (v := .int 11) (ty := .int) (C := RX11) (T := TX11) (N := 9) hx hb hU in_X11 tyX11 tyX11_ok nmX11 hown hK.1 hP hD hS 0 rfl rfl 1 (by decide) (hU _ u_251) (fun _ h9 => h9) rfl (by decide +kernel) rfl rfl (Nat.le_of_ble_eq_true rfl) dX11_putOnTape_37 (fun H locs hP hD hS => ?_)
  have hP : va_P G vwCl [(h0, .inr (10, [.ref r1, .int 11, .int (-1), .ref r2, .ref r4, .ref r6, .int (-2), .ref r7, .ref r9])), (r1, .inl (cy 0, 400, .inl f_3))] H := hP
  have hD : va_D A [(h0, .inr (10, [.ref r1, .int 11, .int (-1), .ref r2, .ref r4, .ref r6, .int (-2), .ref r7, .ref r9])), (r1, .inl (cy 0, 400, .inl f_3))] := hD
  refine lv_iinc (v := 0) (lv' := [(2, .int 0), (0, .ref h0), (1, .int p0)]) hx hb dX11_putOnTape_40 hl (k := 0) rfl (by decide) (by decide) rfl (fun ls hl => ?_)
  refine lv_goto (tgt := 3) hx hb dX11_putOnTape_43 (by decide) ?_
  refine lv_iload_n hx hb dX11_putOnTape_3 rfl (lv_at hl 0 rfl) ?_
  refine lv_if_lt (tgt := 46) hx hb dX11_putOnTape_4 (by decide) (fun c9 => absurd c9 (by decide)) (fun _ => ?_)
  refine lv_aload_n hx hb dX11_putOnTape_7 rfl (lv_at hl 1 rfl) ?_
  refine va_get (D := G) (ci := 10) (v := .int 11) (C := RX11) (T := TX11) (N := 9) hx hb hU in_X11 hown hK.1 hP 0 rfl rfl 1 (by decide) (hU _ u_251) (fun _ h9 => h9) rfl dX11_putOnTape_8 ?_
  refine lv_sipush (v := 400) hx hb dX11_putOnTape_11 (by decide) ?_
  refine lv_icmp_ge (tgt := 40) hx hb dX11_putOnTape_14 (by decide) (fun c9 => absurd c9 (by decide)) (fun _ => ?_)
  refine lv_aload_n hx hb dX11_putOnTape_17 rfl (lv_at hl 1 rfl) ?_
  refine va_get (D := G) (ci := 10) (v := .ref r1) (C := RX11) (T := TX11) (N := 9) hx hb hU in_X11 hown hK.1 hP 0 rfl rfl 0 (by decide) (hU _ u_250) (fun _ h9 => h9) rfl dX11_putOnTape_18 ?_
  refine lv_aload_n hx hb dX11_putOnTape_21 rfl (lv_at hl 1 rfl) ?_
  refine va_get (D := G) (ci := 10) (v := .int 11) (C := RX11) (T := TX11) (N := 9) hx hb hU in_X11 hown hK.1 hP 0 rfl rfl 1 (by decide) (hU _ u_251) (fun _ h9 => h9) rfl dX11_putOnTape_22 ?_
  refine lv_iload_n hx hb dX11_putOnTape_25 rfl (lv_at hl 2 rfl) ?_
  refine lv_iload_n hx hb dX11_putOnTape_26 rfl (lv_at hl 0 rfl) ?_
  refine lv_iushr hx hb dX11_putOnTape_27 rfl ?_
  refine lv_i2b hx hb dX11_putOnTape_28 rfl ?_
  refine va_bast hx hb hK.1 hP hD hS 1 0 rfl rfl (lx_in (by decide +kernel)) dX11_putOnTape_29 (fun H locs hP hD hS => ?_)
  have hP : va_P G vwCl [(h0, .inr (10, [.ref r1, .int 11, .int (-1), .ref r2, .ref r4, .ref r6, .int (-2), .ref r7, .ref r9])), (r1, .inl (cy 0, 400, .inl (upd f_3 (11 : Int32).toNatClampNeg (vp_nar .byte (((((p0).toUInt32 >>> ((0).toUInt32 &&& Int32.toUInt32 31)).toInt32)).toInt8.toInt32)))))] H := hP
  have hD : va_D A [(h0, .inr (10, [.ref r1, .int 11, .int (-1), .ref r2, .ref r4, .ref r6, .int (-2), .ref r7, .ref r9])), (r1, .inl (cy 0, 400, .inl (upd f_3 (11 : Int32).toNatClampNeg (vp_nar .byte (((((p0).toUInt32 >>> ((0).toUInt32 &&& Int32.toUInt32 31)).toInt32)).toInt8.toInt32)))))] := hD
  generalize ef_4 : (upd f_3 (11 : Int32).toNatClampNeg (vp_nar .byte (((((p0).toUInt32 >>> ((0).toUInt32 &&& Int32.toUInt32 31)).toInt32)).toInt8.toInt32))) = f_4 at hP hD
  refine lv_aload_n hx hb dX11_putOnTape_30 rfl (lv_at hl 1 rfl) ?_
  refine lv_dup hx hb dX11_putOnTape_31 rfl ?_
  refine va_get (D := G) (ci := 10) (v := .int 11) (C := RX11) (T := TX11) (N := 9) hx hb hU in_X11 hown hK.1 hP 0 rfl rfl 1 (by decide) (hU _ u_251) (fun _ h9 => h9) rfl dX11_putOnTape_32 ?_
  refine lv_iconst (v := 1) hx hb dX11_putOnTape_35 (by decide) ?_
  refine lv_iadd hx hb dX11_putOnTape_36 (lx_top (y := 12) (by decide +kernel) ?_)
  refine va_put (D := G) (ci := 10) (v := .int 12) (ty := .int) (C := RX11) (T := TX11) (N := 9) hx hb hU in_X11 tyX11 tyX11_ok nmX11 hown hK.1 hP hD hS 0 rfl rfl 1 (by decide) (hU _ u_251) (fun _ h9 => h9) rfl (by decide +kernel) rfl rfl (Nat.le_of_ble_eq_true rfl) dX11_putOnTape_37 (fun H locs hP hD hS => ?_)
  have hP : va_P G vwCl [(h0, .inr (10, [.ref r1, .int 12, .int (-1), .ref r2, .ref r4, .ref r6, .int (-2), .ref r7, .ref r9])), (r1, .inl (cy 0, 400, .inl f_4))] H := hP
  have hD : va_D A [(h0, .inr (10, [.ref r1, .int 12, .int (-1), .ref r2, .ref r4, .ref r6, .int (-2), .ref r7, .ref r9])), (r1, .inl (cy 0, 400, .inl f_4))] := hD
  refine lv_iinc (v := (-8)) (lv' := [(2, .int (-8)), (0, .ref h0), (1, .int p0)]) hx hb dX11_putOnTape_40 hl (k := 0) rfl (by decide) (by decide) rfl (fun ls hl => ?_)
  refine lv_goto (tgt := 3) hx hb dX11_putOnTape_43 (by decide) ?_
  refine lv_iload_n hx hb dX11_putOnTape_3 rfl (lv_at hl 0 rfl) ?_
  refine lv_if_lt (tgt := 46) hx hb dX11_putOnTape_4 (by decide) (fun _ => ?_) (fun c9 => absurd (by decide) c9)
  exact kt_vret hx hb hr hlocks hP hD hS dX11_putOnTape_46 [0, 1] rfl rfl rfl rfl ⟨f_4, rfl, rfl⟩
set_option maxHeartbeats 4000000 in
set_option maxRecDepth 100000 in
theorem c_X11_putOnTape_12 (l : Launch) (G : va_G) (cy : Nat → ClassId) (h0 : Nat) (r1 : Nat) (r2 : Nat) (r4 : Nat) (r6 : Nat) (r7 : Nat) (r9 : Nat) (f0 : Nat → Int32) (p0 : Int32) : Kt l G cy yX11_putOnTape cX11_putOnTape 3 none ({ frames := 10, cells := 0, slots := 0, locals := 200 } : Room) [.ref h0, .int p0] [(h0, .inr (10, [.ref r1, .int 12, .int (-1), .ref r2, .ref r4, .ref r6, .int (-2), .ref r7, .ref r9])), (r1, .inl (cy 0, 400, .inl f0))] (fun (v : Option Value) (w1 : va_W) => ∃ (f1 : Nat → Int32), v = none ∧ w1 = [(h0, .inr (10, [.ref r1, .int 16, .int (-1), .ref r2, .ref r4, .ref r6, .int (-2), .ref r7, .ref r9])), (r1, .inl (cy 0, 400, .inl f1))]) := by
  refine kt_ofW (by decide) (Nat.le_of_ble_eq_true rfl) ?_
  intro p e s m below meth c A ls hx hb hr hU hown hlocks hml hin hP hK hD hA hS hl
  have hown : s.vm.findClass RX11 = some m.cls := hown
  have hl : lv_has ls 3 [(0, .ref h0), (1, .int p0)] := hl
  refine lv_bipush (v := 24) hx hb dX11_putOnTape_0 (by decide) ?_
  refine lv_istore_n (lv' := [(2, .int 24), (0, .ref h0), (1, .int p0)]) hx hb dX11_putOnTape_2 rfl hl (by decide) rfl (fun ls hl => ?_)
  refine lv_iload_n hx hb dX11_putOnTape_3 rfl (lv_at hl 0 rfl) ?_
  refine lv_if_lt (tgt := 46) hx hb dX11_putOnTape_4 (by decide) (fun c9 => absurd c9 (by decide)) (fun _ => ?_)
  refine lv_aload_n hx hb dX11_putOnTape_7 rfl (lv_at hl 1 rfl) ?_
  refine va_get (D := G) (ci := 10) (v := .int 12) (C := RX11) (T := TX11) (N := 9) hx hb hU in_X11 hown hK.1 hP 0 rfl rfl 1 (by decide) (hU _ u_251) (fun _ h9 => h9) rfl dX11_putOnTape_8 ?_
  refine lv_sipush (v := 400) hx hb dX11_putOnTape_11 (by decide) ?_
  refine lv_icmp_ge (tgt := 40) hx hb dX11_putOnTape_14 (by decide) (fun c9 => absurd c9 (by decide)) (fun _ => ?_)
  refine lv_aload_n hx hb dX11_putOnTape_17 rfl (lv_at hl 1 rfl) ?_
  refine va_get (D := G) (ci := 10) (v := .ref r1) (C := RX11) (T := TX11) (N := 9) hx hb hU in_X11 hown hK.1 hP 0 rfl rfl 0 (by decide) (hU _ u_250) (fun _ h9 => h9) rfl dX11_putOnTape_18 ?_
  refine lv_aload_n hx hb dX11_putOnTape_21 rfl (lv_at hl 1 rfl) ?_
  refine va_get (D := G) (ci := 10) (v := .int 12) (C := RX11) (T := TX11) (N := 9) hx hb hU in_X11 hown hK.1 hP 0 rfl rfl 1 (by decide) (hU _ u_251) (fun _ h9 => h9) rfl dX11_putOnTape_22 ?_
  refine lv_iload_n hx hb dX11_putOnTape_25 rfl (lv_at hl 2 rfl) ?_
  refine lv_iload_n hx hb dX11_putOnTape_26 rfl (lv_at hl 0 rfl) ?_
  refine lv_iushr hx hb dX11_putOnTape_27 rfl ?_
  refine lv_i2b hx hb dX11_putOnTape_28 rfl ?_
  refine va_bast hx hb hK.1 hP hD hS 1 0 rfl rfl (lx_in (by decide +kernel)) dX11_putOnTape_29 (fun H locs hP hD hS => ?_)
  have hP : va_P G vwCl [(h0, .inr (10, [.ref r1, .int 12, .int (-1), .ref r2, .ref r4, .ref r6, .int (-2), .ref r7, .ref r9])), (r1, .inl (cy 0, 400, .inl (upd f0 (12 : Int32).toNatClampNeg (vp_nar .byte (((((p0).toUInt32 >>> ((24).toUInt32 &&& Int32.toUInt32 31)).toInt32)).toInt8.toInt32)))))] H := hP
  have hD : va_D A [(h0, .inr (10, [.ref r1, .int 12, .int (-1), .ref r2, .ref r4, .ref r6, .int (-2), .ref r7, .ref r9])), (r1, .inl (cy 0, 400, .inl (upd f0 (12 : Int32).toNatClampNeg (vp_nar .byte (((((p0).toUInt32 >>> ((24).toUInt32 &&& Int32.toUInt32 31)).toInt32)).toInt8.toInt32)))))] := hD
  generalize ef_1 : (upd f0 (12 : Int32).toNatClampNeg (vp_nar .byte (((((p0).toUInt32 >>> ((24).toUInt32 &&& Int32.toUInt32 31)).toInt32)).toInt8.toInt32))) = f_1 at hP hD
  refine lv_aload_n hx hb dX11_putOnTape_30 rfl (lv_at hl 1 rfl) ?_
  refine lv_dup hx hb dX11_putOnTape_31 rfl ?_
  refine va_get (D := G) (ci := 10) (v := .int 12) (C := RX11) (T := TX11) (N := 9) hx hb hU in_X11 hown hK.1 hP 0 rfl rfl 1 (by decide) (hU _ u_251) (fun _ h9 => h9) rfl dX11_putOnTape_32 ?_
  refine lv_iconst (v := 1) hx hb dX11_putOnTape_35 (by decide) ?_
  refine lv_iadd hx hb dX11_putOnTape_36 (lx_top (y := 13) (by decide +kernel) ?_)
  refine va_put (D := G) (ci := 10) (v := .int 13) (ty := .int) (C := RX11) (T := TX11) (N := 9) hx hb hU in_X11 tyX11 tyX11_ok nmX11 hown hK.1 hP hD hS 0 rfl rfl 1 (by decide) (hU _ u_251) (fun _ h9 => h9) rfl (by decide +kernel) rfl rfl (Nat.le_of_ble_eq_true rfl) dX11_putOnTape_37 (fun H locs hP hD hS => ?_)
  have hP : va_P G vwCl [(h0, .inr (10, [.ref r1, .int 13, .int (-1), .ref r2, .ref r4, .ref r6, .int (-2), .ref r7, .ref r9])), (r1, .inl (cy 0, 400, .inl f_1))] H := hP
  have hD : va_D A [(h0, .inr (10, [.ref r1, .int 13, .int (-1), .ref r2, .ref r4, .ref r6, .int (-2), .ref r7, .ref r9])), (r1, .inl (cy 0, 400, .inl f_1))] := hD
  refine lv_iinc (v := 16) (lv' := [(2, .int 16), (0, .ref h0), (1, .int p0)]) hx hb dX11_putOnTape_40 hl (k := 0) rfl (by decide) (by decide) rfl (fun ls hl => ?_)
  refine lv_goto (tgt := 3) hx hb dX11_putOnTape_43 (by decide) ?_
  refine lv_iload_n hx hb dX11_putOnTape_3 rfl (lv_at hl 0 rfl) ?_
  refine lv_if_lt (tgt := 46) hx hb dX11_putOnTape_4 (by decide) (fun c9 => absurd c9 (by decide)) (fun _ => ?_)
  refine lv_aload_n hx hb dX11_putOnTape_7 rfl (lv_at hl 1 rfl) ?_
  refine va_get (D := G) (ci := 10) (v := .int 13) (C := RX11) (T := TX11) (N := 9) hx hb hU in_X11 hown hK.1 hP 0 rfl rfl 1 (by decide) (hU _ u_251) (fun _ h9 => h9) rfl dX11_putOnTape_8 ?_
  refine lv_sipush (v := 400) hx hb dX11_putOnTape_11 (by decide) ?_
  refine lv_icmp_ge (tgt := 40) hx hb dX11_putOnTape_14 (by decide) (fun c9 => absurd c9 (by decide)) (fun _ => ?_)
  refine lv_aload_n hx hb dX11_putOnTape_17 rfl (lv_at hl 1 rfl) ?_
  refine va_get (D := G) (ci := 10) (v := .ref r1) (C := RX11) (T := TX11) (N := 9) hx hb hU in_X11 hown hK.1 hP 0 rfl rfl 0 (by decide) (hU _ u_250) (fun _ h9 => h9) rfl dX11_putOnTape_18 ?_
  refine lv_aload_n hx hb dX11_putOnTape_21 rfl (lv_at hl 1 rfl) ?_
  refine va_get (D := G) (ci := 10) (v := .int 13) (C := RX11) (T := TX11) (N := 9) hx hb hU in_X11 hown hK.1 hP 0 rfl rfl 1 (by decide) (hU _ u_251) (fun _ h9 => h9) rfl dX11_putOnTape_22 ?_
  refine lv_iload_n hx hb dX11_putOnTape_25 rfl (lv_at hl 2 rfl) ?_
  refine lv_iload_n hx hb dX11_putOnTape_26 rfl (lv_at hl 0 rfl) ?_
  refine lv_iushr hx hb dX11_putOnTape_27 rfl ?_
  refine lv_i2b hx hb dX11_putOnTape_28 rfl ?_
  refine va_bast hx hb hK.1 hP hD hS 1 0 rfl rfl (lx_in (by decide +kernel)) dX11_putOnTape_29 (fun H locs hP hD hS => ?_)
  have hP : va_P G vwCl [(h0, .inr (10, [.ref r1, .int 13, .int (-1), .ref r2, .ref r4, .ref r6, .int (-2), .ref r7, .ref r9])), (r1, .inl (cy 0, 400, .inl (upd f_1 (13 : Int32).toNatClampNeg (vp_nar .byte (((((p0).toUInt32 >>> ((16).toUInt32 &&& Int32.toUInt32 31)).toInt32)).toInt8.toInt32)))))] H := hP
  have hD : va_D A [(h0, .inr (10, [.ref r1, .int 13, .int (-1), .ref r2, .ref r4, .ref r6, .int (-2), .ref r7, .ref r9])), (r1, .inl (cy 0, 400, .inl (upd f_1 (13 : Int32).toNatClampNeg (vp_nar .byte (((((p0).toUInt32 >>> ((16).toUInt32 &&& Int32.toUInt32 31)).toInt32)).toInt8.toInt32)))))] := hD
  generalize ef_2 : (upd f_1 (13 : Int32).toNatClampNeg (vp_nar .byte (((((p0).toUInt32 >>> ((16).toUInt32 &&& Int32.toUInt32 31)).toInt32)).toInt8.toInt32))) = f_2 at hP hD
  refine lv_aload_n hx hb dX11_putOnTape_30 rfl (lv_at hl 1 rfl) ?_
  refine lv_dup hx hb dX11_putOnTape_31 rfl ?_
  refine va_get (D := G) (ci := 10) (v := .int 13) (C := RX11) (T := TX11) (N := 9) hx hb hU in_X11 hown hK.1 hP 0 rfl rfl 1 (by decide) (hU _ u_251) (fun _ h9 => h9) rfl dX11_putOnTape_32 ?_
  refine lv_iconst (v := 1) hx hb dX11_putOnTape_35 (by decide) ?_
  refine lv_iadd hx hb dX11_putOnTape_36 (lx_top (y := 14) (by decide +kernel) ?_)
  refine va_put (D := G) (ci := 10) (v := .int 14) (ty := .int) (C := RX11) (T := TX11) (N := 9) hx hb hU in_X11 tyX11 tyX11_ok nmX11 hown hK.1 hP hD hS 0 rfl rfl 1 (by decide) (hU _ u_251) (fun _ h9 => h9) rfl (by decide +kernel) rfl rfl (Nat.le_of_ble_eq_true rfl) dX11_putOnTape_37 (fun H locs hP hD hS => ?_)
  have hP : va_P G vwCl [(h0, .inr (10, [.ref r1, .int 14, .int (-1), .ref r2, .ref r4, .ref r6, .int (-2), .ref r7, .ref r9])), (r1, .inl (cy 0, 400, .inl f_2))] H := hP
  have hD : va_D A [(h0, .inr (10, [.ref r1, .int 14, .int (-1), .ref r2, .ref r4, .ref r6, .int (-2), .ref r7, .ref r9])), (r1, .inl (cy 0, 400, .inl f_2))] := hD
  refine lv_iinc (v := 8) (lv' := [(2, .int 8), (0, .ref h0), (1, .int p0)]) hx hb dX11_putOnTape_40 hl (k := 0) rfl (by decide) (by decide) rfl (fun ls hl => ?_)
  refine lv_goto (tgt := 3) hx hb dX11_putOnTape_43 (by decide) ?_
  refine lv_iload_n hx hb dX11_putOnTape_3 rfl (lv_at hl 0 rfl) ?_
  refine lv_if_lt (tgt := 46) hx hb dX11_putOnTape_4 (by decide) (fun c9 => absurd c9 (by decide)) (fun _ => ?_)
  refine lv_aload_n hx hb dX11_putOnTape_7 rfl (lv_at hl 1 rfl) ?_
  refine va_get (D := G) (ci := 10) (v := .int 14) (C := RX11) (T := TX11) (N := 9) hx hb hU in_X11 hown hK.1 hP 0 rfl rfl 1 (by decide) (hU _ u_251) (fun _ h9 => h9) rfl dX11_putOnTape_8 ?_
  refine lv_sipush (v := 400) hx hb dX11_putOnTape_11 (by decide) ?_
  refine lv_icmp_ge (tgt := 40) hx hb dX11_putOnTape_14 (by decide) (fun c9 => absurd c9 (by decide)) (fun _ => ?_)
  refine lv_aload_n hx hb dX11_putOnTape_17 rfl (lv_at hl 1 rfl) ?_
  refine va_get (D := G) (ci := 10) (v := .ref r1) (C := RX11) (T := TX11) (N := 9) hx hb hU in_X11 hown hK.1 hP 0 rfl rfl 0 (by decide) (hU _ u_250) (fun _ h9 => h9) rfl dX11_putOnTape_18 ?_
  refine lv_aload_n hx hb dX11_putOnTape_21 rfl (lv_at hl 1 rfl) ?_
  refine va_get (D := G) (ci := 10) (v := .int 14) (C := RX11) (T := TX11) (N := 9) hx hb hU in_X11 hown hK.1 hP 0 rfl rfl 1 (by decide) (hU _ u_251) (fun _ h9 => h9) rfl dX11_putOnTape_22 ?_
  refine lv_iload_n hx hb dX11_putOnTape_25 rfl (lv_at hl 2 rfl) ?_
  refine lv_iload_n hx hb dX11_putOnTape_26 rfl (lv_at hl 0 rfl) ?_
  refine lv_iushr hx hb dX11_putOnTape_27 rfl ?_
  refine lv_i2b hx hb dX11_putOnTape_28 rfl ?_
  refine va_bast hx hb hK.1 hP hD hS 1 0 rfl rfl (lx_in (by decide +kernel)) dX11_putOnTape_29 (fun H locs hP hD hS => ?_)
  have hP : va_P G vwCl [(h0, .inr (10, [.ref r1, .int 14, .int (-1), .ref r2, .ref r4, .ref r6, .int (-2), .ref r7, .ref r9])), (r1, .inl (cy 0, 400, .inl (upd f_2 (14 : Int32).toNatClampNeg (vp_nar .byte (((((p0).toUInt32 >>> ((8).toUInt32 &&& Int32.toUInt32 31)).toInt32)).toInt8.toInt32)))))] H := hP
  have hD : va_D A [(h0, .inr (10, [.ref r1, .int 14, .int (-1), .ref r2, .ref r4, .ref r6, .int (-2), .ref r7, .ref r9])), (r1, .inl (cy 0, 400, .inl (upd f_2 (14 : Int32).toNatClampNeg (vp_nar .byte (((((p0).toUInt32 >>> ((8).toUInt32 &&& Int32.toUInt32 31)).toInt32)).toInt8.toInt32)))))] := hD
  generalize ef_3 : (upd f_2 (14 : Int32).toNatClampNeg (vp_nar .byte (((((p0).toUInt32 >>> ((8).toUInt32 &&& Int32.toUInt32 31)).toInt32)).toInt8.toInt32))) = f_3 at hP hD
  refine lv_aload_n hx hb dX11_putOnTape_30 rfl (lv_at hl 1 rfl) ?_
  refine lv_dup hx hb dX11_putOnTape_31 rfl ?_
  refine va_get (D := G) (ci := 10) (v := .int 14) (C := RX11) (T := TX11) (N := 9) hx hb hU in_X11 hown hK.1 hP 0 rfl rfl 1 (by decide) (hU _ u_251) (fun _ h9 => h9) rfl dX11_putOnTape_32 ?_
  refine lv_iconst (v := 1) hx hb dX11_putOnTape_35 (by decide) ?_
  refine lv_iadd hx hb dX11_putOnTape_36 (lx_top (y := 15) (by decide +kernel) ?_)
  refine va_put (D := G) (ci := 10) (v := .int 15) (ty := .int) (C := RX11) (T := TX11) (N := 9) hx hb hU in_X11 tyX11 tyX11_ok nmX11 hown hK.1 hP hD hS 0 rfl rfl 1 (by decide) (hU _ u_251) (fun _ h9 => h9) rfl (by decide +kernel) rfl rfl (Nat.le_of_ble_eq_true rfl) dX11_putOnTape_37 (fun H locs hP hD hS => ?_)
  have hP : va_P G vwCl [(h0, .inr (10, [.ref r1, .int 15, .int (-1), .ref r2, .ref r4, .ref r6, .int (-2), .ref r7, .ref r9])), (r1, .inl (cy 0, 400, .inl f_3))] H := hP
  have hD : va_D A [(h0, .inr (10, [.ref r1, .int 15, .int (-1), .ref r2, .ref r4, .ref r6, .int (-2), .ref r7, .ref r9])), (r1, .inl (cy 0, 400, .inl f_3))] := hD
  refine lv_iinc (v := 0) (lv' := [(2, .int 0), (0, .ref h0), (1, .int p0)]) hx hb dX11_putOnTape_40 hl (k := 0) rfl (by decide) (by decide) rfl (fun ls hl => ?_)
  refine lv_goto (tgt := 3) hx hb dX11_putOnTape_43 (by decide) ?_
  refine lv_iload_n hx hb dX11_putOnTape_3 rfl (lv_at hl 0 rfl) ?_
  refine lv_if_lt (tgt := 46) hx hb dX11_putOnTape_4 (by decide) (fun c9 => absurd c9 (by decide)) (fun _ => ?_)
  refine lv_aload_n hx hb dX11_putOnTape_7 rfl (lv_at hl 1 rfl) ?_
  refine va_get (D := G) (ci := 10) (v := .int 15) (C := RX11) (T := TX11) (N := 9) hx hb hU in_X11 hown hK.1 hP 0 rfl rfl 1 (by decide) (hU _ u_251) (fun _ h9 => h9) rfl dX11_putOnTape_8 ?_
  refine lv_sipush (v := 400) hx hb dX11_putOnTape_11 (by decide) ?_
  refine lv_icmp_ge (tgt := 40) hx hb dX11_putOnTape_14 (by decide) (fun c9 => absurd c9 (by decide)) (fun _ => ?_)
  refine lv_aload_n hx hb dX11_putOnTape_17 rfl (lv_at hl 1 rfl) ?_
  refine va_get (D := G) (ci := 10) (v := .ref r1) (C := RX11) (T := TX11) (N := 9) hx hb hU in_X11 hown hK.1 hP 0 rfl rfl 0 (by decide) (hU _ u_250) (fun _ h9 => h9) rfl dX11_putOnTape_18 ?_
  refine lv_aload_n hx hb dX11_putOnTape_21 rfl (lv_at hl 1 rfl) ?_
  refine va_get (D := G) (ci := 10) (v := .int 15) (C := RX11) (T := TX11) (N := 9) hx hb hU in_X11 hown hK.1 hP 0 rfl rfl 1 (by decide) (hU _ u_251) (fun _ h9 => h9) rfl dX11_putOnTape_22 ?_
  refine lv_iload_n hx hb dX11_putOnTape_25 rfl (lv_at hl 2 rfl) ?_
  refine lv_iload_n hx hb dX11_putOnTape_26 rfl (lv_at hl 0 rfl) ?_
  refine lv_iushr hx hb dX11_putOnTape_27 rfl ?_
  refine lv_i2b hx hb dX11_putOnTape_28 rfl ?_
  refine va_bast hx hb hK.1 hP hD hS 1 0 rfl rfl (lx_in (by decide +kernel)) dX11_putOnTape_29 (fun H locs hP hD hS => ?_)
  have hP : va_P G vwCl [(h0, .inr (10, [.ref r1, .int 15, .int (-1), .ref r2, .ref r4, .ref r6, .int (-2), .ref r7, .ref r9])), (r1, .inl (cy 0, 400, .inl (upd f_3 (15 : Int32).toNatClampNeg (vp_nar .byte (((((p0).toUInt32 >>> ((0).toUInt32 &&& Int32.toUInt32 31)).toInt32)).toInt8.toInt32)))))] H := hP
  have hD : va_D A [(h0, .inr (10, [.ref r1, .int 15, .int (-1), .ref r2, .ref r4, .ref r6, .int (-2), .ref r7, .ref r9])), (r1, .inl (cy 0, 400, .inl (upd f_3 (15 : Int32).toNatClampNeg (vp_nar .byte (((((p0).toUInt32 >>> ((0).toUInt32 &&& Int32.toUInt32 31)).toInt32)).toInt8.toInt32)))))] := hD
  generalize ef_4 : (upd f_3 (15 : Int32).toNatClampNeg (vp_nar .byte (((((p0).toUInt32 >>> ((0).toUInt32 &&& Int32.toUInt32 31)).toInt32)).toInt8.toInt32))) = f_4 at hP hD
  refine lv_aload_n hx hb dX11_putOnTape_30 rfl (lv_at hl 1 rfl) ?_
  refine lv_dup hx hb dX11_putOnTape_31 rfl ?_
  refine va_get (D := G) (ci := 10) (v := .int 15) (C := RX11) (T := TX11) (N := 9) hx hb hU in_X11 hown hK.1 hP 0 rfl rfl 1 (by decide) (hU _ u_251) (fun _ h9 => h9) rfl dX11_putOnTape_32 ?_
  refine lv_iconst (v := 1) hx hb dX11_putOnTape_35 (by decide) ?_
  refine lv_iadd hx hb dX11_putOnTape_36 (lx_top (y := 16) (by decide +kernel) ?_)
  refine va_put (D := G) (ci := 10) (v := .int 16) (ty := .int) (C := RX11) (T := TX11) (N := 9) hx hb hU in_X11 tyX11 tyX11_ok nmX11 hown hK.1 hP hD hS 0 rfl rfl 1 (by decide) (hU _ u_251) (fun _ h9 => h9) rfl (by decide +kernel) rfl rfl (Nat.le_of_ble_eq_true rfl) dX11_putOnTape_37 (fun H locs hP hD hS => ?_)
  have hP : va_P G vwCl [(h0, .inr (10, [.ref r1, .int 16, .int (-1), .ref r2, .ref r4, .ref r6, .int (-2), .ref r7, .ref r9])), (r1, .inl (cy 0, 400, .inl f_4))] H := hP
  have hD : va_D A [(h0, .inr (10, [.ref r1, .int 16, .int (-1), .ref r2, .ref r4, .ref r6, .int (-2), .ref r7, .ref r9])), (r1, .inl (cy 0, 400, .inl f_4))] := hD
  refine lv_iinc (v := (-8)) (lv' := [(2, .int (-8)), (0, .ref h0), (1, .int p0)]) hx hb dX11_putOnTape_40 hl (k := 0) rfl (by decide) (by decide) rfl (fun ls hl => ?_)
  refine lv_goto (tgt := 3) hx hb dX11_putOnTape_43 (by decide) ?_
  refine lv_iload_n hx hb dX11_putOnTape_3 rfl (lv_at hl 0 rfl) ?_
  refine lv_if_lt (tgt := 46) hx hb dX11_putOnTape_4 (by decide) (fun _ => ?_) (fun c9 => absurd (by decide) c9)
  exact kt_vret hx hb hr hlocks hP hD hS dX11_putOnTape_46 [0, 1] rfl rfl rfl rfl ⟨f_4, rfl, rfl⟩
set_option maxHeartbeats 4000000 in
set_option maxRecDepth 100000 in
theorem c_X11_putOnTape_16 (l : Launch) (G : va_G) (cy : Nat → ClassId) (h0 : Nat) (r1 : Nat) (r2 : Nat) (r4 : Nat) (r6 : Nat) (r7 : Nat) (r9 : Nat) (f0 : Nat → Int32) (p0 : Int32) : Kt l G cy yX11_putOnTape cX11_putOnTape 3 none ({ frames := 10, cells := 0, slots := 0, locals := 200 } : Room) [.ref h0, .int p0] [(h0, .inr (10, [.ref r1, .int 16, .int (-1), .ref r2, .ref r4, .ref r6, .int (-2), .ref r7, .ref r9])), (r1, .inl (cy 0, 400, .inl f0))] (fun (v : Option Value) (w1 : va_W) => ∃ (f1 : Nat → Int32), v = none ∧ w1 = [(h0, .inr (10, [.ref r1, .int 20, .int (-1), .ref r2, .ref r4, .ref r6, .int (-2), .ref r7, .ref r9])), (r1, .inl (cy 0, 400, .inl f1))]) := by
  refine kt_ofW (by decide) (Nat.le_of_ble_eq_true rfl) ?_
  intro p e s m below meth c A ls hx hb hr hU hown hlocks hml hin hP hK hD hA hS hl
  have hown : s.vm.findClass RX11 = some m.cls := hown
  have hl : lv_has ls 3 [(0, .ref h0), (1, .int p0)] := hl
  refine lv_bipush (v := 24) hx hb dX11_putOnTape_0 (by decide) ?_
  refine lv_istore_n (lv' := [(2, .int 24), (0, .ref h0), (1, .int p0)]) hx hb dX11_putOnTape_2 rfl hl (by decide) rfl (fun ls hl => ?_)
  refine lv_iload_n hx hb dX11_putOnTape_3 rfl (lv_at hl 0 rfl) ?_
  refine lv_if_lt (tgt := 46) hx hb dX11_putOnTape_4 (by decide) (fun c9 => absurd c9 (by decide)) (fun _ => ?_)
  refine lv_aload_n hx hb dX11_putOnTape_7 rfl (lv_at hl 1 rfl) ?_
  refine va_get (D := G) (ci := 10) (v := .int 16) (C := RX11) (T := TX11) (N := 9) hx hb hU in_X11 hown hK.1 hP 0 rfl rfl 1 (by decide) (hU _ u_251) (fun _ h9 => h9) rfl dX11_putOnTape_8 ?_
  refine lv_sipush (v := 400) hx hb dX11_putOnTape_11 (by decide) ?_
  refine lv_icmp_ge (tgt := 40) hx hb dX11_putOnTape_14 (by decide) (fun c9 => absurd c9 (by decide)) (fun _ => ?_)
  refine lv_aload_n hx hb dX11_putOnTape_17 rfl (lv_at hl 1 rfl) ?_
  refine va_get (D := G) (ci := 10) (v := .ref r1) (C := RX11) (T := TX11) (N := 9) hx hb hU in_X11 hown hK.1 hP 0 rfl rfl 0 (by decide) (hU _ u_250) (fun _ h9 => h9) rfl dX11_putOnTape_18 ?_
  refine lv_aload_n hx hb dX11_putOnTape_21 rfl (lv_at hl 1 rfl) ?_
  refine va_get (D := G) (ci := 10) (v := .int 16) (C := RX11) (T := TX11) (N := 9) hx hb hU in_X11 hown hK.1 hP 0 rfl rfl 1 (by decide) (hU _ u_251) (fun _ h9 => h9) rfl dX11_putOnTape_22 ?_
  refine lv_iload_n hx hb dX11_putOnTape_25 rfl (lv_at hl 2 rfl) ?_
  refine lv_iload_n hx hb dX11_putOnTape_26 rfl (lv_at hl 0 rfl) ?_
  refine lv_iushr hx hb dX11_putOnTape_27 rfl ?_
  refine lv_i2b hx hb dX11_putOnTape_28 rfl ?_
  refine va_bast hx hb hK.1 hP hD hS 1 0 rfl rfl (lx_in (by decide +kernel)) dX11_putOnTape_29 (fun H locs hP hD hS => ?_)
  have hP : va_P G vwCl [(h0, .inr (10, [.ref r1, .int 16, .int (-1), .ref r2, .ref r4, .ref r6, .int (-2), .ref r7, .ref r9])), (r1, .inl (cy 0, 400, .inl (upd f0 (16 : Int32).toNatClampNeg (vp_nar .byte (((((p0).toUInt32 >>> ((24).toUInt32 &&& Int32.toUInt32 31)).toInt32)).toInt8.toInt32)))))] H := hP
  have hD : va_D A [(h0, .inr (10, [.ref r1, .int 16, .int (-1), .ref r2, .ref r4, .ref r6, .int (-2), .ref r7, .ref r9])), (r1, .inl (cy 0, 400, .inl (upd f0 (16 : Int32).toNatClampNeg (vp_nar .byte (((((p0).toUInt32 >>> ((24).toUInt32 &&& Int32.toUInt32 31)).toInt32)).toInt8.toInt32)))))] := hD
  generalize ef_1 : (upd f0 (16 : Int32).toNatClampNeg (vp_nar .byte (((((p0).toUInt32 >>> ((24).toUInt32 &&& Int32.toUInt32 31)).toInt32)).toInt8.toInt32))) = f_1 at hP hD
  refine lv_aload_n hx hb dX11_putOnTape_30 rfl (lv_at hl 1 rfl) ?_
  refine lv_dup hx hb dX11_putOnTape_31 rfl ?_
  refine va_get (D := G) (ci := 10) (v := .int 16) (C := RX11) (T := TX11) (N := 9) hx hb hU in_X11 hown hK.1 hP 0 rfl rfl 1 (by decide) (hU _ u_251) (fun _ h9 => h9) rfl dX11_putOnTape_32 ?_
  refine lv_iconst (v := 1) hx hb dX11_putOnTape_35 (by decide) ?_
  refine lv_iadd hx hb dX11_putOnTape_36 (lx_top (y := 17) (by decide +kernel) ?_)
  refine va_put (D := G) (ci := 10) (v := .int 17) (ty := .int) (C := RX11) (T := TX11) (N := 9) hx hb hU in_X11 tyX11 tyX11_ok nmX11 hown hK.1 hP hD hS 0 rfl rfl 1 (by decide) (hU _ u_251) (fun _ h9 => h9) rfl (by decide +kernel) rfl rfl (Nat.le_of_ble_eq_true rfl) dX11_putOnTape_37 (fun H locs hP hD hS => ?_)
  have hP : va_P G vwCl [(h0, .inr (10, [.ref r1, .int 17, .int (-1), .ref r2, .ref r4, .ref r6, .int (-2), .ref r7, .ref r9])), (r1, .inl (cy 0, 400, .inl f_1))] H := hP
  have hD : va_D A [(h0, .inr (10, [.ref r1, .int 17, .int (-1), .ref r2, .ref r4, .ref r6, .int (-2), .ref r7, .ref r9])), (r1, .inl (cy 0, 400, .inl f_1))] := hD
  refine lv_iinc (v := 16) (lv' := [(2, .int 16), (0, .ref h0), (1, .int p0)]) hx hb dX11_putOnTape_40 hl (k := 0) rfl (by decide) (by decide) rfl (fun ls hl => ?_)
  refine lv_goto (tgt := 3) hx hb dX11_putOnTape_43 (by decide) ?_
  refine lv_iload_n hx hb dX11_putOnTape_3 rfl (lv_at hl 0 rfl) ?_
  refine lv_if_lt (tgt := 46) hx hb dX11_putOnTape_4 (by decide) (fun c9 => absurd c9 (by decide)) (fun _ => ?_)
  refine lv_aload_n hx hb dX11_putOnTape_7 rfl (lv_at hl 1 rfl) ?_
  refine va_get (D := G) (ci := 10) (v := .int 17) (C := RX11) (T := TX11) (N := 9) hx hb hU in_X11 hown hK.1 hP 0 rfl rfl 1 (by decide) (hU _ u_251) (fun _ h9 => h9) rfl dX11_putOnTape_8 ?_
  refine lv_sipush (v := 400) hx hb dX11_putOnTape_11 (by decide) ?_
  refine lv_icmp_ge (tgt := 40) hx hb dX11_putOnTape_14 (by decide) (fun c9 => absurd c9 (by decide)) (fun _ => ?_)
  refine lv_aload_n hx hb dX11_putOnTape_17 rfl (lv_at hl 1 rfl) ?_
  refine va_get (D := G) (ci := 10) (v := .ref r1) (C := RX11) (T := TX11) (N := 9) hx hb hU in_X11 hown hK.1 hP 0 rfl rfl 0 (by decide) (hU _ u_250) (fun _ h9 => h9) rfl dX11_putOnTape_18 ?_
  refine lv_aload_n hx hb dX11_putOnTape_21 rfl (lv_at hl 1 rfl) ?_
  refine va_get (D := G) (ci := 10) (v := .int 17) (C := RX11) (T := TX11) (N := 9) hx hb hU in_X11 hown hK.1 hP 0 rfl rfl 1 (by decide) (hU _ u_251) (fun _ h9 => h9) rfl dX11_putOnTape_22 ?_
  refine lv_iload_n hx hb dX11_putOnTape_25 rfl (lv_at hl 2 rfl) ?_
  refine lv_iload_n hx hb dX11_putOnTape_26 rfl (lv_at hl 0 rfl) ?_
  refine lv_iushr hx hb dX11_putOnTape_27 rfl ?_
  refine lv_i2b hx hb dX11_putOnTape_28 rfl ?_
  refine va_bast hx hb hK.1 hP hD hS 1 0 rfl rfl (lx_in (by decide +kernel)) dX11_putOnTape_29 (fun H locs hP hD hS => ?_)
  have hP : va_P G vwCl [(h0, .inr (10, [.ref r1, .int 17, .int (-1), .ref r2, .ref r4, .ref r6, .int (-2), .ref r7, .ref r9])), (r1, .inl (cy 0, 400, .inl (upd f_1 (17 : Int32).toNatClampNeg (vp_nar .byte (((((p0).toUInt32 >>> ((16).toUInt32 &&& Int32.toUInt32 31)).toInt32)).toInt8.toInt32)))))] H := hP
  have hD : va_D A [(h0, .inr (10, [.ref r1, .int 17, .int (-1), .ref r2, .ref r4, .ref r6, .int (-2), .ref r7, .ref r9])), (r1, .inl (cy 0, 400, .inl (upd f_1 (17 : Int32).toNatClampNeg (vp_nar .byte (((((p0).toUInt32 >>> ((16).toUInt32 &&& Int32.toUInt32 31)).toInt32)).toInt8.toInt32)))))] := hD
  generalize ef_2 : (upd f_1 (17 : Int32).toNatClampNeg (vp_nar .byte (((((p0).toUInt32 >>> ((16).toUInt32 &&& Int32.toUInt32 31)).toInt32)).toInt8.toInt32))) = f_2 at hP hD
  refine lv_aload_n hx hb dX11_putOnTape_30 rfl (lv_at hl 1 rfl) ?_
  refine lv_dup hx hb dX11_putOnTape_31 rfl ?_
  refine va_get (D := G) (ci := 10) (v := .int 17) (C := RX11) (T := TX11) (N := 9) hx hb hU in_X11 hown hK.1 hP 0 rfl rfl 1 (by decide) (hU _ u_251) (fun _ h9 => h9) rfl dX11_putOnTape_32 ?_
  refine lv_iconst (v := 1) hx hb dX11_putOnTape_35 (by decide) ?_
  refine lv_iadd hx hb dX11_putOnTape_36 (lx_top (y := 18) (by decide +kernel) ?_)
  refine va_put (D := G) (ci := 10) (v := .int 18) (ty := .int) (C := RX11) (T := TX11) (N := 9) hx hb hU in_X11 tyX11 tyX11_ok nmX11 hown hK.1 hP hD hS 0 rfl rfl 1 (by decide) (hU _ u_251) (fun _ h9 => h9) rfl (by decide +kernel) rfl rfl (Nat.le_of_ble_eq_true rfl) dX11_putOnTape_37 (fun H locs hP hD hS => ?_)
  have hP : va_P G vwCl [(h0, .inr (10, [.ref r1, .int 18, .int (-1), .ref r2, .ref r4, .ref r6, .int (-2), .ref r7, .ref r9])), (r1, .inl (cy 0, 400, .inl f_2))] H := hP
  have hD : va_D A [(h0, .inr (10, [.ref r1, .int 18, .int (-1), .ref r2, .ref r4, .ref r6, .int (-2), .ref r7, .ref r9])), (r1, .inl (cy 0, 400, .inl f_2))] := hD
  refine lv_iinc (v := 8) (lv' := [(2, .int 8), (0, .ref h0), (1, .int p0)]) hx hb dX11_putOnTape_40 hl (k := 0) rfl (by decide) (by decide) rfl (fun ls hl => ?_)
  refine lv_goto (tgt := 3) hx hb dX11_putOnTape_43 (by decide) ?_
  refine lv_iload_n hx hb dX11_putOnTape_3 rfl (lv_at hl 0 rfl) ?_
  refine lv_if_lt (tgt := 46) hx hb dX11_putOnTape_4 (by decide) (fun c9 => absurd c9 (by decide)) (fun _ => ?_)
  refine lv_aload_n hx hb dX11_putOnTape_7 rfl (lv_at hl 1 rfl) ?_
  refine va_get (D := G) (ci := 10) (v := .int 18) (C := RX11) (T := TX11) (N := 9) hx hb hU in_X11 hown hK.1 hP 0 rfl rfl 1 (by decide) (hU _ u_251) (fun _ h9 => h9) rfl dX11_putOnTape_8 ?_
  refine lv_sipush (v := 400) hx hb dX11_putOnTape_11 (by decide) ?_
  refine lv_icmp_ge (tgt := 40) hx hb dX11_putOnTape_14 (by decide) (fun c9 => absurd c9 (by decide)) (fun _ => ?_)
  refine lv_aload_n hx hb dX11_putOnTape_17 rfl (lv_at hl 1 rfl) ?_
  refine va_get (D := G) (ci := 10) (v := .ref r1) (C := RX11) (T := TX11) (N := 9) hx hb hU in_X11 hown hK.1 hP 0 rfl rfl 0 (by decide) (hU _ u_250) (fun _ h9 => h9) rfl dX11_putOnTape_18 ?_
  refine lv_aload_n hx hb dX11_putOnTape_21 rfl (lv_at hl 1 rfl) ?_
  refine va_get (D := G) (ci := 10) (v := .int 18) (C := RX11) (T := TX11) (N := 9) hx hb hU in_X11 hown hK.1 hP 0 rfl rfl 1 (by decide) (hU _ u_251) (fun _ h9 => h9) rfl dX11_putOnTape_22 ?_
  refine lv_iload_n hx hb dX11_putOnTape_25 rfl (lv_at hl 2 rfl) ?_
  refine lv_iload_n hx hb dX11_putOnTape_26 rfl (lv_at hl 0 rfl) ?_
  refine lv_iushr hx hb dX11_putOnTape_27 rfl ?_
  refine lv_i2b hx hb dX11_putOnTape_28 rfl ?_
  refine va_bast hx hb hK.1 hP hD hS 1 0 rfl rfl (lx_in (by decide +kernel)) dX11_putOnTape_29 (fun H locs hP hD hS => ?_)
  have hP : va_P G vwCl [(h0, .inr (10, [.ref r1, .int 18, .int (-1), .ref r2, .ref r4, .ref r6, .int (-2), .ref r7, .ref r9])), (r1, .inl (cy 0, 400, .inl (upd f_2 (18 : Int32).toNatClampNeg (vp_nar .byte (((((p0).toUInt32 >>> ((8).toUInt32 &&& Int32.toUInt32 31)).toInt32)).toInt8.toInt32)))))] H := hP
  have hD : va_D A [(h0, .inr (10, [.ref r1, .int 18, .int (-1), .ref r2, .ref r4, .ref r6, .int (-2), .ref r7, .ref r9])), (r1, .inl (cy 0, 400, .inl (upd f_2 (18 : Int32).toNatClampNeg (vp_nar .byte (((((p0).toUInt32 >>> ((8).toUInt32 &&& Int32.toUInt32 31)).toInt32)).toInt8.toInt32)))))] := hD
  generalize ef_3 : (upd f_2 (18 : Int32).toNatClampNeg (vp_nar .byte (((((p0).toUInt32 >>> ((8).toUInt32 &&& Int32.toUInt32 31)).toInt32)).toInt8.toInt32))) = f_3 at hP hD
  refine lv_aload_n hx hb dX11_putOnTape_30 rfl (lv_at hl 1 rfl) ?_
  refine lv_dup hx hb dX11_putOnTape_31 rfl ?_
  refine va_get (D := G) (ci := 10) (v := .int 18) (C := RX11) (T := TX11) (N := 9) hx hb hU in_X11 hown hK.1 hP 0 rfl rfl 1 (by decide) (hU _ u_251) (fun _ h9 => h9) rfl dX11_putOnTape_32 ?_
  refine lv_iconst (v := 1) hx hb dX11_putOnTape_35 (by decide) ?_
  refine lv_iadd hx hb dX11_putOnTape_36 (lx_top (y := 19) (by decide +kernel) ?_)
  refine va_put (D := G) (ci := 10) (v := .int 19) (ty := .int) (C := RX11) (T := TX11) (N := 9) hx hb hU in_X11 tyX11 tyX11_ok nmX11 hown hK.1 hP hD hS 0 rfl rfl 1 (by decide) (hU _ u_251) (fun _ h9 => h9) rfl (by decide +kernel) rfl rfl (Nat.le_of_ble_eq_true rfl) dX11_putOnTape_37 (fun H locs hP hD hS => ?_)
  have hP : va_P G vwCl [(h0, .inr (10, [.ref r1, .int 19, .int (-1), .ref r2, .ref r4, .ref r6, .int (-2), .ref r7, .ref r9])), (r1, .inl (cy 0, 400, .inl f_3))] H := hP
  have hD : va_D A [(h0, .inr (10, [.ref r1, .int 19, .int (-1), .ref r2, .ref r4, .ref r6, .int (-2), .ref r7, .ref r9])), (r1, .inl (cy 0, 400, .inl f_3))] := hD
  refine lv_iinc (v := 0) (lv' := [(2, .int 0), (0, .ref h0), (1, .int p0)]) hx hb dX11_putOnTape_40 hl (k := 0) rfl (by decide) (by decide) rfl (fun ls hl => ?_)
  refine lv_goto (tgt := 3) hx hb dX11_putOnTape_43 (by decide) ?_
  refine lv_iload_n hx hb dX11_putOnTape_3 rfl (lv_at hl 0 rfl) ?_
  refine lv_if_lt (tgt := 46) hx hb dX11_putOnTape_4 (by decide) (fun c9 => absurd c9 (by decide)) (fun _ => ?_)
  refine lv_aload_n hx hb dX11_putOnTape_7 rfl (lv_at hl 1 rfl) ?_
  refine va_get (D := G) (ci := 10) (v := .int 19) (C := RX11) (T := TX11) (N := 9) hx hb hU in_X11 hown hK.1 hP 0 rfl rfl 1 (by decide) (hU _ u_251) (fun _ h9 => h9) rfl dX11_putOnTape_8 ?_
  refine lv_sipush (v := 400) hx hb dX11_putOnTape_11 (by decide) ?_
  refine lv_icmp_ge (tgt := 40) hx hb dX11_putOnTape_14 (by decide) (fun c9 => absurd c9 (by decide)) (fun _ => ?_)
  refine lv_aload_n hx hb dX11_putOnTape_17 rfl (lv_at hl 1 rfl) ?_
  refine va_get (D := G) (ci := 10) (v := .ref r1) (C := RX11) (T := TX11) (N := 9) hx hb hU in_X11 hown hK.1 hP 0 rfl rfl 0 (by decide) (hU _ u_250) (fun _ h9 => h9) rfl dX11_putOnTape_18 ?_
  refine lv_aload_n hx hb dX11_putOnTape_21 rfl (lv_at hl 1 rfl) ?_
  refine va_get (D := G) (ci := 10) (v := .int 19) (C := RX11) (T := TX11) (N := 9) hx hb hU in_X11 hown hK.1 hP 0 rfl rfl 1 (by decide) (hU _ u_251) (fun _ h9 => h9) rfl dX11_putOnTape_22 ?_
  refine lv_iload_n hx hb dX11_putOnTape_25 rfl (lv_at hl 2 rfl) ?_
  refine lv_iload_n hx hb dX11_putOnTape_26 rfl (lv_at hl 0 rfl) ?_
  refine lv_iushr hx hb dX11_putOnTape_27 rfl ?_
  refine lv_i2b hx hb dX11_putOnTape_28 rfl ?_
  refine va_bast hx hb hK.1 hP hD hS 1 0 rfl rfl (lx_in (by decide +kernel)) dX11_putOnTape_29 (fun H locs hP hD hS => ?_)
  have hP : va_P G vwCl [(h0, .inr (10, [.ref r1, .int 19, .int (-1), .ref r2, .ref r4, .ref r6, .int (-2), .ref r7, .ref r9])), (r1, .inl (cy 0, 400, .inl (upd f_3 (19 : Int32).toNatClampNeg (vp_nar .byte (((((p0).toUInt32 >>> ((0).toUInt32 &&& Int32.toUInt32 31)).toInt32)).toInt8.toInt32)))))] H := hP
  have hD : va_D A [(h0, .inr (10, [.ref r1, .int 19, .int (-1), .ref r2, .ref r4, .ref r6, .int (-2), .ref r7, .ref r9])), (r1, .inl (cy 0, 400, .inl (upd f_3 (19 : Int32).toNatClampNeg (vp_nar .byte (((((p0).toUInt32 >>> ((0).toUInt32 &&& Int32.toUInt32 31)).toInt32)).toInt8.toInt32)))))] := hD
  generalize ef_4 : (upd f_3 (19 : Int32).toNatClampNeg (vp_nar .byte (((((p0).toUInt32 >>> ((0).toUInt32 &&& Int32.toUInt32 31)).toInt32)).toInt8.toInt32))) = f_4 at hP hD
  refine lv_aload_n hx hb dX11_putOnTape_30 rfl (lv_at hl 1 rfl) ?_
  refine lv_dup hx hb dX11_putOnTape_31 rfl ?_
  refine va_get (D := G) (ci := 10) (v := .int 19) (C := RX11) (T := TX11) (N := 9) hx hb hU in_X11 hown hK.1 hP 0 rfl rfl 1 (by decide) (hU _ u_251) (fun _ h9 => h9) rfl dX11_putOnTape_32 ?_
  refine lv_iconst (v := 1) hx hb dX11_putOnTape_35 (by decide) ?_
  refine lv_iadd hx hb dX11_putOnTape_36 (lx_top (y := 20) (by decide +kernel) ?_)
  refine va_put (D := G) (ci := 10) (v := .int 20) (ty := .int) (C := RX11) (T := TX11) (N := 9) hx hb hU in_X11 tyX11 tyX11_ok nmX11 hown hK.1 hP hD hS 0 rfl rfl 1 (by decide) (hU _ u_251) (fun _ h9 => h9) rfl (by decide +kernel) rfl rfl (Nat.le_of_ble_eq_true rfl) dX11_putOnTape_37 (fun H locs hP hD hS => ?_)
  have hP : va_P G vwCl [(h0, .inr (10, [.ref r1, .int 20, .int (-1), .ref r2, .ref r4, .ref r6, .int (-2), .ref r7, .ref r9])), (r1, .inl (cy 0, 400, .inl f_4))] H := hP
  have hD : va_D A [(h0, .inr (10, [.ref r1, .int 20, .int (-1), .ref r2, .ref r4, .ref r6, .int (-2), .ref r7, .ref r9])), (r1, .inl (cy 0, 400, .inl f_4))] := hD
  refine lv_iinc (v := (-8)) (lv' := [(2, .int (-8)), (0, .ref h0), (1, .int p0)]) hx hb dX11_putOnTape_40 hl (k := 0) rfl (by decide) (by decide) rfl (fun ls hl => ?_)
  refine lv_goto (tgt := 3) hx hb dX11_putOnTape_43 (by decide) ?_
  refine lv_iload_n hx hb dX11_putOnTape_3 rfl (lv_at hl 0 rfl) ?_
  refine lv_if_lt (tgt := 46) hx hb dX11_putOnTape_4 (by decide) (fun _ => ?_) (fun c9 => absurd (by decide) c9)
  exact kt_vret hx hb hr hlocks hP hD hS dX11_putOnTape_46 [0, 1] rfl rfl rfl rfl ⟨f_4, rfl, rfl⟩
set_option maxHeartbeats 4000000 in
set_option maxRecDepth 100000 in
theorem c_X11_feed (l : Launch) (G : va_G) (cy : Nat → ClassId) (h0 : Nat) (r1 : Nat) (r2 : Nat) (r4 : Nat) (r6 : Nat) (r7 : Nat) (r9 : Nat) (p0 : Int32) (p1 : Int32) (p2 : Int32) (p3 : Int32) (p4 : Int32) : Kt l G cy yX11_feed cX11_feed 6 (some .int) ({ frames := 12, cells := 0, slots := 0, locals := 300 } : Room) [.ref h0, .int p0, .int p1, .int p2, .int p3, .int p4] [(h0, .inr (10, [.ref r1, .int 0, .int (-1), .ref r2, .ref r4, .ref r6, .int (-2), .ref r7, .ref r9])), (r1, .inl (cy 0, 400, .inl (fun _ => 0)))] (fun (v : Option Value) (w1 : va_W) => v = some (.int 20) ∧ w1 = []) := by
  refine kt_ofW (by decide) (Nat.le_of_ble_eq_true rfl) ?_
  intro p e s m below meth c A ls hx hb hr hU hown hlocks hml hin hP hK hD hA hS hl
  have hown : s.vm.findClass RX11 = some m.cls := hown
  have hl : lv_has ls 6 [(0, .ref h0), (1, .int p0), (2, .int p1), (3, .int p2), (4, .int p3), (5, .int p4)] := hl
  refine lv_aload_n hx hb dX11_feed_0 rfl (lv_at hl 0 rfl) ?_
  refine va_get (D := G) (ci := 10) (v := .int 0) (C := RX11) (T := TX11) (N := 9) hx hb hU in_X11 hown hK.1 hP 0 rfl rfl 1 (by decide) (hU _ u_251) (fun _ h9 => h9) rfl dX11_feed_1 ?_
  refine lv_bipush (v := 20) hx hb dX11_feed_4 (by decide) ?_
  refine lv_iadd hx hb dX11_feed_6 (lx_top (y := 20) (by decide +kernel) ?_)
  refine lv_sipush (v := 400) hx hb dX11_feed_7 (by decide) ?_
  refine lv_icmp_le (tgt := 15) hx hb dX11_feed_10 (by decide) (fun _ => ?_) (fun c9 => absurd (by decide) c9)
  refine lv_aload_n hx hb dX11_feed_15 rfl (lv_at hl 0 rfl) ?_
  refine lv_iload_n hx hb dX11_feed_16 rfl (lv_at hl 1 rfl) ?_
  refine kt_callV (wc := [(h0, .inr (10, [.ref r1, .int 0, .int (-1), .ref r2, .ref r4, .ref r6, .int (-2), .ref r7, .ref r9])), (r1, .inl (cy 0, 400, .inl (fun _ => 0)))]) (wr := []) (As := [.int p0]) (rest := []) (c_X11_putOnTape_0 l G cy h0 r1 r2 r4 r6 r7 r9 (fun _ => 0) p0) m_X11_putOnTape u_282 hx hb hml hown hU hl.1 hK hP hD hS hA dX11_feed_17 [0, 1] [] rfl rfl rfl rfl rfl rfl (Nat.le_of_ble_eq_true rfl) (ci := 10) rfl rfl rfl (fun v9 w9 H locs hw hP hD hS => ?_)
  obtain ⟨x_1, rfl, rfl⟩ := hw
  have hP : va_P G vwCl [(h0, .inr (10, [.ref r1, .int 4, .int (-1), .ref r2, .ref r4, .ref r6, .int (-2), .ref r7, .ref r9])), (r1, .inl (cy 0, 400, .inl x_1))] H := hP
  have hD : va_D A [(h0, .inr (10, [.ref r1, .int 4, .int (-1), .ref r2, .ref r4, .ref r6, .int (-2), .ref r7, .ref r9])), (r1, .inl (cy 0, 400, .inl x_1))] := hD
  refine W.eq (g2 := F0 m 20 ls []) rfl ?_
  refine W.widen (k := 0) (n := 0) (Nat.le_of_ble_eq_true rfl) (Nat.le_of_ble_eq_true rfl) ?_
  refine lv_aload_n hx hb dX11_feed_20 rfl (lv_at hl 0 rfl) ?_
  refine lv_iload_n hx hb dX11_feed_21 rfl (lv_at hl 2 rfl) ?_
  refine kt_callV (wc := [(h0, .inr (10, [.ref r1, .int 4, .int (-1), .ref r2, .ref r4, .ref r6, .int (-2), .ref r7, .ref r9])), (r1, .inl (cy 0, 400, .inl x_1))]) (wr := []) (As := [.int p1]) (rest := []) (c_X11_putOnTape_4 l G cy h0 r1 r2 r4 r6 r7 r9 x_1 p1) m_X11_putOnTape u_282 hx hb hml hown hU hl.1 hK hP hD hS hA dX11_feed_22 [0, 1] [] rfl rfl rfl rfl rfl rfl (Nat.le_of_ble_eq_true rfl) (ci := 10) rfl rfl rfl (fun v9 w9 H locs hw hP hD hS => ?_)
  obtain ⟨x_2, rfl, rfl⟩ := hw
  have hP : va_P G vwCl [(h0, .inr (10, [.ref r1, .int 8, .int (-1), .ref r2, .ref r4, .ref r6, .int (-2), .ref r7, .ref r9])), (r1, .inl (cy 0, 400, .inl x_2))] H := hP
  have hD : va_D A [(h0, .inr (10, [.ref r1, .int 8, .int (-1), .ref r2, .ref r4, .ref r6, .int (-2), .ref r7, .ref r9])), (r1, .inl (cy 0, 400, .inl x_2))] := hD
  refine W.eq (g2 := F0 m 25 ls []) rfl ?_
  refine W.widen (k := 0) (n := 0) (Nat.le_of_ble_eq_true rfl) (Nat.le_of_ble_eq_true rfl) ?_
  refine lv_aload_n hx hb dX11_feed_25 rfl (lv_at hl 0 rfl) ?_
  refine lv_iload_n hx hb dX11_feed_26 rfl (lv_at hl 3 rfl) ?_
  refine kt_callV (wc := [(h0, .inr (10, [.ref r1, .int 8, .int (-1), .ref r2, .ref r4, .ref r6, .int (-2), .ref r7, .ref r9])), (r1, .inl (cy 0, 400, .inl x_2))]) (wr := []) (As := [.int p2]) (rest := []) (c_X11_putOnTape_8 l G cy h0 r1 r2 r4 r6 r7 r9 x_2 p2) m_X11_putOnTape u_282 hx hb hml hown hU hl.1 hK hP hD hS hA dX11_feed_27 [0, 1] [] rfl rfl rfl rfl rfl rfl (Nat.le_of_ble_eq_true rfl) (ci := 10) rfl rfl rfl (fun v9 w9 H locs hw hP hD hS => ?_)
  obtain ⟨x_3, rfl, rfl⟩ := hw
  have hP : va_P G vwCl [(h0, .inr (10, [.ref r1, .int 12, .int (-1), .ref r2, .ref r4, .ref r6, .int (-2), .ref r7, .ref r9])), (r1, .inl (cy 0, 400, .inl x_3))] H := hP
  have hD : va_D A [(h0, .inr (10, [.ref r1, .int 12, .int (-1), .ref r2, .ref r4, .ref r6, .int (-2), .ref r7, .ref r9])), (r1, .inl (cy 0, 400, .inl x_3))] := hD
  refine W.eq (g2 := F0 m 30 ls []) rfl ?_
  refine W.widen (k := 0) (n := 0) (Nat.le_of_ble_eq_true rfl) (Nat.le_of_ble_eq_true rfl) ?_
  refine lv_aload_n hx hb dX11_feed_30 rfl (lv_at hl 0 rfl) ?_
  refine lv_iload hx hb dX11_feed_31 (lv_at hl 4 rfl) ?_
  refine kt_callV (wc := [(h0, .inr (10, [.ref r1, .int 12, .int (-1), .ref r2, .ref r4, .ref r6, .int (-2), .ref r7, .ref r9])), (r1, .inl (cy 0, 400, .inl x_3))]) (wr := []) (As := [.int p3]) (rest := []) (c_X11_putOnTape_12 l G cy h0 r1 r2 r4 r6 r7 r9 x_3 p3) m_X11_putOnTape u_282 hx hb hml hown hU hl.1 hK hP hD hS hA dX11_feed_33 [0, 1] [] rfl rfl rfl rfl rfl rfl (Nat.le_of_ble_eq_true rfl) (ci := 10) rfl rfl rfl (fun v9 w9 H locs hw hP hD hS => ?_)
  obtain ⟨x_4, rfl, rfl⟩ := hw
  have hP : va_P G vwCl [(h0, .inr (10, [.ref r1, .int 16, .int (-1), .ref r2, .ref r4, .ref r6, .int (-2), .ref r7, .ref r9])), (r1, .inl (cy 0, 400, .inl x_4))] H := hP
  have hD : va_D A [(h0, .inr (10, [.ref r1, .int 16, .int (-1), .ref r2, .ref r4, .ref r6, .int (-2), .ref r7, .ref r9])), (r1, .inl (cy 0, 400, .inl x_4))] := hD
  refine W.eq (g2 := F0 m 36 ls []) rfl ?_
  refine W.widen (k := 0) (n := 0) (Nat.le_of_ble_eq_true rfl) (Nat.le_of_ble_eq_true rfl) ?_
  refine lv_aload_n hx hb dX11_feed_36 rfl (lv_at hl 0 rfl) ?_
  refine lv_iload hx hb dX11_feed_37 (lv_at hl 5 rfl) ?_
  refine kt_callV (wc := [(h0, .inr (10, [.ref r1, .int 16, .int (-1), .ref r2, .ref r4, .ref r6, .int (-2), .ref r7, .ref r9])), (r1, .inl (cy 0, 400, .inl x_4))]) (wr := []) (As := [.int p4]) (rest := []) (c_X11_putOnTape_16 l G cy h0 r1 r2 r4 r6 r7 r9 x_4 p4) m_X11_putOnTape u_282 hx hb hml hown hU hl.1 hK hP hD hS hA dX11_feed_39 [0, 1] [] rfl rfl rfl rfl rfl rfl (Nat.le_of_ble_eq_true rfl) (ci := 10) rfl rfl rfl (fun v9 w9 H locs hw hP hD hS => ?_)
  obtain ⟨x_5, rfl, rfl⟩ := hw
  have hP : va_P G vwCl [(h0, .inr (10, [.ref r1, .int 20, .int (-1), .ref r2, .ref r4, .ref r6, .int (-2), .ref r7, .ref r9])), (r1, .inl (cy 0, 400, .inl x_5))] H := hP
  have hD : va_D A [(h0, .inr (10, [.ref r1, .int 20, .int (-1), .ref r2, .ref r4, .ref r6, .int (-2), .ref r7, .ref r9])), (r1, .inl (cy 0, 400, .inl x_5))] := hD
  refine W.eq (g2 := F0 m 42 ls []) rfl ?_
  refine W.widen (k := 0) (n := 0) (Nat.le_of_ble_eq_true rfl) (Nat.le_of_ble_eq_true rfl) ?_
  refine lv_aload_n hx hb dX11_feed_42 rfl (lv_at hl 0 rfl) ?_
  refine va_get (D := G) (ci := 10) (v := .int 20) (C := RX11) (T := TX11) (N := 9) hx hb hU in_X11 hown hK.1 hP 0 rfl rfl 1 (by decide) (hU _ u_251) (fun _ h9 => h9) rfl dX11_feed_43 ?_
  exact kt_iret hx hb hr hlocks hP hD hS dX11_feed_46 [] rfl rfl rfl rfl ⟨rfl, rfl⟩
