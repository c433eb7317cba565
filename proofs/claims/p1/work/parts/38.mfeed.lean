set_option maxHeartbeats 4000000 in
set_option maxRecDepth 100000 in
theorem c_X12_feed (l : Launch) (G : va_G) (cy : Nat → ClassId) (h0 : Nat) (a1 : Nat) (a2 : Nat) (a3 : Nat) (a4 : Nat) (a5 : Nat) (a6 : Nat) (a7 : Nat) (a8 : Nat) (a9 : Nat) (a10 : Nat) (a11 : Nat) (a12 : Nat) (a13 : Nat) (a14 : Nat) (a15 : Nat) (a16 : Nat) (a17 : Nat) (a18 : Nat) (p0 : Int32) (p1 : Int32) (p2 : Int32) (p3 : Int32) (p4 : Int32) : Kt l G cy yX12_feed cX12_feed 7 (some .int) ({ frames := 10, cells := 0, slots := 0, locals := 200 } : Room) [.ref h0, .int p0, .int p1, .int p2, .int p3, .int p4] [(h0, .inr (11, [.int 0, .ref a1, .int 0, .ref a2, .int 0, .int 0, .int 0, .int 0, .int (-1), .ref a3, .ref a4, .int 0, .int 0, .int 0, .ref a5, .ref a6, .int 0, .int (-1), .int 0, .int 0, .ref a7, .ref a8, .ref a9, .ref a10, .int 0, .int 0, .ref a11, .ref a12, .int 0, .int 0, .ref a13, .ref a14, .ref a15, .int 0, .int 0, .ref a16, .ref a17, .ref a18])), (a1, .inl (cy 0, 400, .inl (fun _ => 0))), (a2, .inl (cy 1, 5, .inl (fun _ => 0)))] (fun (v : Option Value) (w1 : va_W) => v = some (.int 20) ∧ w1 = []) := by
  refine kt_ofW (by decide) (Nat.le_of_ble_eq_true rfl) ?_
  intro p e s m below meth c A ls hx hb hr hU hown hlocks hml hin hP hK hD hA hS hl
  have hown : s.vm.findClass RX12 = some m.cls := hown
  have hl : lv_has ls 7 [(0, .ref h0), (1, .int p0), (2, .int p1), (3, .int p2), (4, .int p3), (5, .int p4)] := hl
  refine lv_aload_n hx hb dX12_feed_0 rfl (lv_at hl 0 rfl) ?_
  refine lv_iconst (v := 0) hx hb dX12_feed_1 (by decide) ?_
  refine va_put (D := G) (ci := 11) (v := .int 0) (ty := .int) (C := RX12) (T := TX12) (N := 38) hx hb hU in_X12 tyX12 tyX12_ok nmX12 hown hK.1 hP hD hS 0 rfl rfl 0 (by decide) (hU _ u_1505) (fun _ h9 => h9) rfl (by decide +kernel) rfl rfl (Nat.le_of_ble_eq_true rfl) dX12_feed_2 (fun H locs hP hD hS => ?_)
  have hP : va_P G vwCl [(h0, .inr (11, [.int 0, .ref a1, .int 0, .ref a2, .int 0, .int 0, .int 0, .int 0, .int (-1), .ref a3, .ref a4, .int 0, .int 0, .int 0, .ref a5, .ref a6, .int 0, .int (-1), .int 0, .int 0, .ref a7, .ref a8, .ref a9, .ref a10, .int 0, .int 0, .ref a11, .ref a12, .int 0, .int 0, .ref a13, .ref a14, .ref a15, .int 0, .int 0, .ref a16, .ref a17, .ref a18])), (a1, .inl (cy 0, 400, .inl (fun _ => 0))), (a2, .inl (cy 1, 5, .inl (fun _ => 0)))] H := hP
  have hD : va_D A [(h0, .inr (11, [.int 0, .ref a1, .int 0, .ref a2, .int 0, .int 0, .int 0, .int 0, .int (-1), .ref a3, .ref a4, .int 0, .int 0, .int 0, .ref a5, .ref a6, .int 0, .int (-1), .int 0, .int 0, .ref a7, .ref a8, .ref a9, .ref a10, .int 0, .int 0, .ref a11, .ref a12, .int 0, .int 0, .ref a13, .ref a14, .ref a15, .int 0, .int 0, .ref a16, .ref a17, .ref a18])), (a1, .inl (cy 0, 400, .inl (fun _ => 0))), (a2, .inl (cy 1, 5, .inl (fun _ => 0)))] := hD
  refine lv_aload_n hx hb dX12_feed_5 rfl (lv_at hl 0 rfl) ?_
  refine va_get (D := G) (ci := 11) (v := .int 0) (C := RX12) (T := TX12) (N := 38) hx hb hU in_X12 hown hK.1 hP 0 rfl rfl 2 (by decide) (hU _ u_1507) (fun _ h9 => h9) rfl dX12_feed_6 ?_
  refine lv_bipush (v := 20) hx hb dX12_feed_9 (by decide) ?_
  refine lv_iadd hx hb dX12_feed_11 (lx_top (y := 20) (by decide +kernel) ?_)
  refine lv_sipush (v := 400) hx hb dX12_feed_12 (by decide) ?_
  refine lv_icmp_le (tgt := 20) hx hb dX12_feed_15 (by decide) (fun _ => ?_) (fun c9 => absurd (by decide) c9)
  refine lv_aload_n hx hb dX12_feed_20 rfl (lv_at hl 0 rfl) ?_
  refine va_get (D := G) (ci := 11) (v := .ref a2) (C := RX12) (T := TX12) (N := 38) hx hb hU in_X12 hown hK.1 hP 0 rfl rfl 3 (by decide) (hU _ u_1508) (fun _ h9 => h9) rfl dX12_feed_21 ?_
  refine lv_iconst (v := 0) hx hb dX12_feed_24 (by decide) ?_
  refine lv_iload_n hx hb dX12_feed_25 rfl (lv_at hl 1 rfl) ?_
  refine va_iast hx hb hK.1 hP hD hS 2 1 rfl rfl (lx_in (by decide +kernel)) dX12_feed_26 (fun H locs hP hD hS => ?_)
  have hP : va_P G vwCl [(h0, .inr (11, [.int 0, .ref a1, .int 0, .ref a2, .int 0, .int 0, .int 0, .int 0, .int (-1), .ref a3, .ref a4, .int 0, .int 0, .int 0, .ref a5, .ref a6, .int 0, .int (-1), .int 0, .int 0, .ref a7, .ref a8, .ref a9, .ref a10, .int 0, .int 0, .ref a11, .ref a12, .int 0, .int 0, .ref a13, .ref a14, .ref a15, .int 0, .int 0, .ref a16, .ref a17, .ref a18])), (a1, .inl (cy 0, 400, .inl (fun _ => 0))), (a2, .inl (cy 1, 5, .inl (upd (fun _ => 0) (0 : Int32).toNatClampNeg p0)))] H := hP
  have hD : va_D A [(h0, .inr (11, [.int 0, .ref a1, .int 0, .ref a2, .int 0, .int 0, .int 0, .int 0, .int (-1), .ref a3, .ref a4, .int 0, .int 0, .int 0, .ref a5, .ref a6, .int 0, .int (-1), .int 0, .int 0, .ref a7, .ref a8, .ref a9, .ref a10, .int 0, .int 0, .ref a11, .ref a12, .int 0, .int 0, .ref a13, .ref a14, .ref a15, .int 0, .int 0, .ref a16, .ref a17, .ref a18])), (a1, .inl (cy 0, 400, .inl (fun _ => 0))), (a2, .inl (cy 1, 5, .inl (upd (fun _ => 0) (0 : Int32).toNatClampNeg p0)))] := hD
  generalize ef_1 : (upd (fun _ => 0) (0 : Int32).toNatClampNeg p0) = f_1 at hP hD
  refine lv_aload_n hx hb dX12_feed_27 rfl (lv_at hl 0 rfl) ?_
  refine va_get (D := G) (ci := 11) (v := .ref a2) (C := RX12) (T := TX12) (N := 38) hx hb hU in_X12 hown hK.1 hP 0 rfl rfl 3 (by decide) (hU _ u_1508) (fun _ h9 => h9) rfl dX12_feed_28 ?_
  refine lv_iconst (v := 1) hx hb dX12_feed_31 (by decide) ?_
  refine lv_iload_n hx hb dX12_feed_32 rfl (lv_at hl 2 rfl) ?_
  refine va_iast hx hb hK.1 hP hD hS 2 1 rfl rfl (lx_in (by decide +kernel)) dX12_feed_33 (fun H locs hP hD hS => ?_)
  have hP : va_P G vwCl [(h0, .inr (11, [.int 0, .ref a1, .int 0, .ref a2, .int 0, .int 0, .int 0, .int 0, .int (-1), .ref a3, .ref a4, .int 0, .int 0, .int 0, .ref a5, .ref a6, .int 0, .int (-1), .int 0, .int 0, .ref a7, .ref a8, .ref a9, .ref a10, .int 0, .int 0, .ref a11, .ref a12, .int 0, .int 0, .ref a13, .ref a14, .ref a15, .int 0, .int 0, .ref a16, .ref a17, .ref a18])), (a1, .inl (cy 0, 400, .inl (fun _ => 0))), (a2, .inl (cy 1, 5, .inl (upd f_1 (1 : Int32).toNatClampNeg p1)))] H := hP
  have hD : va_D A [(h0, .inr (11, [.int 0, .ref a1, .int 0, .ref a2, .int 0, .int 0, .int 0, .int 0, .int (-1), .ref a3, .ref a4, .int 0, .int 0, .int 0, .ref a5, .ref a6, .int 0, .int (-1), .int 0, .int 0, .ref a7, .ref a8, .ref a9, .ref a10, .int 0, .int 0, .ref a11, .ref a12, .int 0, .int 0, .ref a13, .ref a14, .ref a15, .int 0, .int 0, .ref a16, .ref a17, .ref a18])), (a1, .inl (cy 0, 400, .inl (fun _ => 0))), (a2, .inl (cy 1, 5, .inl (upd f_1 (1 : Int32).toNatClampNeg p1)))] := hD
  generalize ef_2 : (upd f_1 (1 : Int32).toNatClampNeg p1) = f_2 at hP hD
  refine lv_aload_n hx hb dX12_feed_34 rfl (lv_at hl 0 rfl) ?_
  refine va_get (D := G) (ci := 11) (v := .ref a2) (C := RX12) (T := TX12) (N := 38) hx hb hU in_X12 hown hK.1 hP 0 rfl rfl 3 (by decide) (hU _ u_1508) (fun _ h9 => h9) rfl dX12_feed_35 ?_
  refine lv_iconst (v := 2) hx hb dX12_feed_38 (by decide) ?_
  refine lv_iload_n hx hb dX12_feed_39 rfl (lv_at hl 3 rfl) ?_
  refine va_iast hx hb hK.1 hP hD hS 2 1 rfl rfl (lx_in (by decide +kernel)) dX12_feed_40 (fun H locs hP hD hS => ?_)
  have hP : va_P G vwCl [(h0, .inr (11, [.int 0, .ref a1, .int 0, .ref a2, .int 0, .int 0, .int 0, .int 0, .int (-1), .ref a3, .ref a4, .int 0, .int 0, .int 0, .ref a5, .ref a6, .int 0, .int (-1), .int 0, .int 0, .ref a7, .ref a8, .ref a9, .ref a10, .int 0, .int 0, .ref a11, .ref a12, .int 0, .int 0, .ref a13, .ref a14, .ref a15, .int 0, .int 0, .ref a16, .ref a17, .ref a18])), (a1, .inl (cy 0, 400, .inl (fun _ => 0))), (a2, .inl (cy 1, 5, .inl (upd f_2 (2 : Int32).toNatClampNeg p2)))] H := hP
  have hD : va_D A [(h0, .inr (11, [.int 0, .ref a1, .int 0, .ref a2, .int 0, .int 0, .int 0, .int 0, .int (-1), .ref a3, .ref a4, .int 0, .int 0, .int 0, .ref a5, .ref a6, .int 0, .int (-1), .int 0, .int 0, .ref a7, .ref a8, .ref a9, .ref a10, .int 0, .int 0, .ref a11, .ref a12, .int 0, .int 0, .ref a13, .ref a14, .ref a15, .int 0, .int 0, .ref a16, .ref a17, .ref a18])), (a1, .inl (cy 0, 400, .inl (fun _ => 0))), (a2, .inl (cy 1, 5, .inl (upd f_2 (2 : Int32).toNatClampNeg p2)))] := hD
  generalize ef_3 : (upd f_2 (2 : Int32).toNatClampNeg p2) = f_3 at hP hD
  refine lv_aload_n hx hb dX12_feed_41 rfl (lv_at hl 0 rfl) ?_
  refine va_get (D := G) (ci := 11) (v := .ref a2) (C := RX12) (T := TX12) (N := 38) hx hb hU in_X12 hown hK.1 hP 0 rfl rfl 3 (by decide) (hU _ u_1508) (fun _ h9 => h9) rfl dX12_feed_42 ?_
  refine lv_iconst (v := 3) hx hb dX12_feed_45 (by decide) ?_
  refine lv_iload hx hb dX12_feed_46 (lv_at hl 4 rfl) ?_
  refine va_iast hx hb hK.1 hP hD hS 2 1 rfl rfl (lx_in (by decide +kernel)) dX12_feed_48 (fun H locs hP hD hS => ?_)
  have hP : va_P G vwCl [(h0, .inr (11, [.int 0, .ref a1, .int 0, .ref a2, .int 0, .int 0, .int 0, .int 0, .int (-1), .ref a3, .ref a4, .int 0, .int 0, .int 0, .ref a5, .ref a6, .int 0, .int (-1), .int 0, .int 0, .ref a7, .ref a8, .ref a9, .ref a10, .int 0, .int 0, .ref a11, .ref a12, .int 0, .int 0, .ref a13, .ref a14, .ref a15, .int 0, .int 0, .ref a16, .ref a17, .ref a18])), (a1, .inl (cy 0, 400, .inl (fun _ => 0))), (a2, .inl (cy 1, 5, .inl (upd f_3 (3 : Int32).toNatClampNeg p3)))] H := hP
  have hD : va_D A [(h0, .inr (11, [.int 0, .ref a1, .int 0, .ref a2, .int 0, .int 0, .int 0, .int 0, .int (-1), .ref a3, .ref a4, .int 0, .int 0, .int 0, .ref a5, .ref a6, .int 0, .int (-1), .int 0, .int 0, .ref a7, .ref a8, .ref a9, .ref a10, .int 0, .int 0, .ref a11, .ref a12, .int 0, .int 0, .ref a13, .ref a14, .ref a15, .int 0, .int 0, .ref a16, .ref a17, .ref a18])), (a1, .inl (cy 0, 400, .inl (fun _ => 0))), (a2, .inl (cy 1, 5, .inl (upd f_3 (3 : Int32).toNatClampNeg p3)))] := hD
  generalize ef_4 : (upd f_3 (3 : Int32).toNatClampNeg p3) = f_4 at hP hD
  refine lv_aload_n hx hb dX12_feed_49 rfl (lv_at hl 0 rfl) ?_
  refine va_get (D := G) (ci := 11) (v := .ref a2) (C := RX12) (T := TX12) (N := 38) hx hb hU in_X12 hown hK.1 hP 0 rfl rfl 3 (by decide) (hU _ u_1508) (fun _ h9 => h9) rfl dX12_feed_50 ?_
  refine lv_iconst (v := 4) hx hb dX12_feed_53 (by decide) ?_
  refine lv_iload hx hb dX12_feed_54 (lv_at hl 5 rfl) ?_
  refine va_iast hx hb hK.1 hP hD hS 2 1 rfl rfl (lx_in (by decide +kernel)) dX12_feed_56 (fun H locs hP hD hS => ?_)
  have hP : va_P G vwCl [(h0, .inr (11, [.int 0, .ref a1, .int 0, .ref a2, .int 0, .int 0, .int 0, .int 0, .int (-1), .ref a3, .ref a4, .int 0, .int 0, .int 0, .ref a5, .ref a6, .int 0, .int (-1), .int 0, .int 0, .ref a7, .ref a8, .ref a9, .ref a10, .int 0, .int 0, .ref a11, .ref a12, .int 0, .int 0, .ref a13, .ref a14, .ref a15, .int 0, .int 0, .ref a16, .ref a17, .ref a18])), (a1, .inl (cy 0, 400, .inl (fun _ => 0))), (a2, .inl (cy 1, 5, .inl (upd f_4 (4 : Int32).toNatClampNeg p4)))] H := hP
  have hD : va_D A [(h0, .inr (11, [.int 0, .ref a1, .int 0, .ref a2, .int 0, .int 0, .int 0, .int 0, .int (-1), .ref a3, .ref a4, .int 0, .int 0, .int 0, .ref a5, .ref a6, .int 0, .int (-1), .int 0, .int 0, .ref a7, .ref a8, .ref a9, .ref a10, .int 0, .int 0, .ref a11, .ref a12, .int 0, .int 0, .ref a13, .ref a14, .ref a15, .int 0, .int 0, .ref a16, .ref a17, .ref a18])), (a1, .inl (cy 0, 400, .inl (fun _ => 0))), (a2, .inl (cy 1, 5, .inl (upd f_4 (4 : Int32).toNatClampNeg p4)))] := hD
  generalize ef_5 : (upd f_4 (4 : Int32).toNatClampNeg p4) = f_5 at hP hD
  refine lv_iconst (v := 0) hx hb dX12_feed_57 (by decide) ?_
  refine lv_istore (lv' := [(6, .int 0), (0, .ref h0), (1, .int p0), (2, .int p1), (3, .int p2), (4, .int p3), (5, .int p4)]) hx hb dX12_feed_58 hl (by decide) rfl (fun ls hl => ?_)
  refine lv_iload hx hb dX12_feed_60 (lv_at hl 0 rfl) ?_
  refine lv_bipush (v := 20) hx hb dX12_feed_62 (by decide) ?_
  refine lv_icmp_ge (tgt := 106) hx hb dX12_feed_64 (by decide) (fun c9 => absurd c9 (by decide)) (fun _ => ?_)
  refine lv_aload_n hx hb dX12_feed_67 rfl (lv_at hl 1 rfl) ?_
  refine va_get (D := G) (ci := 11) (v := .ref a1) (C := RX12) (T := TX12) (N := 38) hx hb hU in_X12 hown hK.1 hP 0 rfl rfl 1 (by decide) (hU _ u_1506) (fun _ h9 => h9) rfl dX12_feed_68 ?_
  refine lv_aload_n hx hb dX12_feed_71 rfl (lv_at hl 1 rfl) ?_
  refine va_get (D := G) (ci := 11) (v := .int 0) (C := RX12) (T := TX12) (N := 38) hx hb hU in_X12 hown hK.1 hP 0 rfl rfl 2 (by decide) (hU _ u_1507) (fun _ h9 => h9) rfl dX12_feed_72 ?_
  refine lv_iload hx hb dX12_feed_75 (lv_at hl 0 rfl) ?_
  refine lv_iadd hx hb dX12_feed_77 (lx_top (y := 0) (by decide +kernel) ?_)
  refine lv_aload_n hx hb dX12_feed_78 rfl (lv_at hl 1 rfl) ?_
  refine va_get (D := G) (ci := 11) (v := .ref a2) (C := RX12) (T := TX12) (N := 38) hx hb hU in_X12 hown hK.1 hP 0 rfl rfl 3 (by decide) (hU _ u_1508) (fun _ h9 => h9) rfl dX12_feed_79 ?_
  refine lv_iload hx hb dX12_feed_82 (lv_at hl 0 rfl) ?_
  refine lv_iconst (v := 4) hx hb dX12_feed_84 (by decide) ?_
  refine lv_idiv hx hb dX12_feed_85 (by decide) (lx_top (y := 0) (by decide +kernel) ?_)
  refine va_iald hx hb hK.1 hP 2 1 rfl rfl (lx_in (by decide +kernel)) dX12_feed_86 ?_
  refine lv_bipush (v := 24) hx hb dX12_feed_87 (by decide) ?_
  refine lv_bipush (v := 8) hx hb dX12_feed_89 (by decide) ?_
  refine lv_iload hx hb dX12_feed_91 (lv_at hl 0 rfl) ?_
  refine lv_iconst (v := 4) hx hb dX12_feed_93 (by decide) ?_
  refine lv_irem hx hb dX12_feed_94 (by decide) (lx_top (y := 0) (by decide +kernel) ?_)
  refine lv_imul hx hb dX12_feed_95 (lx_top (y := 0) (by decide +kernel) ?_)
  refine lv_isub hx hb dX12_feed_96 (lx_top (y := 24) (by decide +kernel) ?_)
  refine lv_ishr hx hb dX12_feed_97 ?_
  refine lv_i2b hx hb dX12_feed_98 rfl ?_
  refine va_bast hx hb hK.1 hP hD hS 1 0 rfl rfl (lx_in (by decide +kernel)) dX12_feed_99 (fun H locs hP hD hS => ?_)
  have hP : va_P G vwCl [(h0, .inr (11, [.int 0, .ref a1, .int 0, .ref a2, .int 0, .int 0, .int 0, .int 0, .int (-1), .ref a3, .ref a4, .int 0, .int 0, .int 0, .ref a5, .ref a6, .int 0, .int (-1), .int 0, .int 0, .ref a7, .ref a8, .ref a9, .ref a10, .int 0, .int 0, .ref a11, .ref a12, .int 0, .int 0, .ref a13, .ref a14, .ref a15, .int 0, .int 0, .ref a16, .ref a17, .ref a18])), (a1, .inl (cy 0, 400, .inl (upd (fun _ => 0) (0 : Int32).toNatClampNeg (vp_nar .byte ((((f_5 (0 : Int32).toNatClampNeg) >>> (24 &&& 31))).toInt8.toInt32))))), (a2, .inl (cy 1, 5, .inl f_5))] H := hP
  have hD : va_D A [(h0, .inr (11, [.int 0, .ref a1, .int 0, .ref a2, .int 0, .int 0, .int 0, .int 0, .int (-1), .ref a3, .ref a4, .int 0, .int 0, .int 0, .ref a5, .ref a6, .int 0, .int (-1), .int 0, .int 0, .ref a7, .ref a8, .ref a9, .ref a10, .int 0, .int 0, .ref a11, .ref a12, .int 0, .int 0, .ref a13, .ref a14, .ref a15, .int 0, .int 0, .ref a16, .ref a17, .ref a18])), (a1, .inl (cy 0, 400, .inl (upd (fun _ => 0) (0 : Int32).toNatClampNeg (vp_nar .byte ((((f_5 (0 : Int32).toNatClampNeg) >>> (24 &&& 31))).toInt8.toInt32))))), (a2, .inl (cy 1, 5, .inl f_5))] := hD
  generalize ef_6 : (upd (fun _ => 0) (0 : Int32).toNatClampNeg (vp_nar .byte ((((f_5 (0 : Int32).toNatClampNeg) >>> (24 &&& 31))).toInt8.toInt32))) = f_6 at hP hD
  refine lv_iinc (v := 1) (lv' := [(6, .int 1), (0, .ref h0), (1, .int p0), (2, .int p1), (3, .int p2), (4, .int p3), (5, .int p4)]) hx hb dX12_feed_100 hl (k := 0) rfl (by decide) (by decide) rfl (fun ls hl => ?_)
  refine lv_goto (tgt := 60) hx hb dX12_feed_103 (by decide) ?_
  refine lv_iload hx hb dX12_feed_60 (lv_at hl 0 rfl) ?_
  refine lv_bipush (v := 20) hx hb dX12_feed_62 (by decide) ?_
  refine lv_icmp_ge (tgt := 106) hx hb dX12_feed_64 (by decide) (fun c9 => absurd c9 (by decide)) (fun _ => ?_)
  refine lv_aload_n hx hb dX12_feed_67 rfl (lv_at hl 1 rfl) ?_
  refine va_get (D := G) (ci := 11) (v := .ref a1) (C := RX12) (T := TX12) (N := 38) hx hb hU in_X12 hown hK.1 hP 0 rfl rfl 1 (by decide) (hU _ u_1506) (fun _ h9 => h9) rfl dX12_feed_68 ?_
  refine lv_aload_n hx hb dX12_feed_71 rfl (lv_at hl 1 rfl) ?_
  refine va_get (D := G) (ci := 11) (v := .int 0) (C := RX12) (T := TX12) (N := 38) hx hb hU in_X12 hown hK.1 hP 0 rfl rfl 2 (by decide) (hU _ u_1507) (fun _ h9 => h9) rfl dX12_feed_72 ?_
  refine lv_iload hx hb dX12_feed_75 (lv_at hl 0 rfl) ?_
  refine lv_iadd hx hb dX12_feed_77 (lx_top (y := 1) (by decide +kernel) ?_)
  refine lv_aload_n hx hb dX12_feed_78 rfl (lv_at hl 1 rfl) ?_
  refine va_get (D := G) (ci := 11) (v := .ref a2) (C := RX12) (T := TX12) (N := 38) hx hb hU in_X12 hown hK.1 hP 0 rfl rfl 3 (by decide) (hU _ u_1508) (fun _ h9 => h9) rfl dX12_feed_79 ?_
  refine lv_iload hx hb dX12_feed_82 (lv_at hl 0 rfl) ?_
  refine lv_iconst (v := 4) hx hb dX12_feed_84 (by decide) ?_
  refine lv_idiv hx hb dX12_feed_85 (by decide) (lx_top (y := 0) (by decide +kernel) ?_)
  refine va_iald hx hb hK.1 hP 2 1 rfl rfl (lx_in (by decide +kernel)) dX12_feed_86 ?_
  refine lv_bipush (v := 24) hx hb dX12_feed_87 (by decide) ?_
  refine lv_bipush (v := 8) hx hb dX12_feed_89 (by decide) ?_
  refine lv_iload hx hb dX12_feed_91 (lv_at hl 0 rfl) ?_
  refine lv_iconst (v := 4) hx hb dX12_feed_93 (by decide) ?_
  refine lv_irem hx hb dX12_feed_94 (by decide) (lx_top (y := 1) (by decide +kernel) ?_)
  refine lv_imul hx hb dX12_feed_95 (lx_top (y := 8) (by decide +kernel) ?_)
  refine lv_isub hx hb dX12_feed_96 (lx_top (y := 16) (by decide +kernel) ?_)
  refine lv_ishr hx hb dX12_feed_97 ?_
  refine lv_i2b hx hb dX12_feed_98 rfl ?_
  refine va_bast hx hb hK.1 hP hD hS 1 0 rfl rfl (lx_in (by decide +kernel)) dX12_feed_99 (fun H locs hP hD hS => ?_)
  have hP : va_P G vwCl [(h0, .inr (11, [.int 0, .ref a1, .int 0, .ref a2, .int 0, .int 0, .int 0, .int 0, .int (-1), .ref a3, .ref a4, .int 0, .int 0, .int 0, .ref a5, .ref a6, .int 0, .int (-1), .int 0, .int 0, .ref a7, .ref a8, .ref a9, .ref a10, .int 0, .int 0, .ref a11, .ref a12, .int 0, .int 0, .ref a13, .ref a14, .ref a15, .int 0, .int 0, .ref a16, .ref a17, .ref a18])), (a1, .inl (cy 0, 400, .inl (upd f_6 (1 : Int32).toNatClampNeg (vp_nar .byte ((((f_5 (0 : Int32).toNatClampNeg) >>> (16 &&& 31))).toInt8.toInt32))))), (a2, .inl (cy 1, 5, .inl f_5))] H := hP
  have hD : va_D A [(h0, .inr (11, [.int 0, .ref a1, .int 0, .ref a2, .int 0, .int 0, .int 0, .int 0, .int (-1), .ref a3, .ref a4, .int 0, .int 0, .int 0, .ref a5, .ref a6, .int 0, .int (-1), .int 0, .int 0, .ref a7, .ref a8, .ref a9, .ref a10, .int 0, .int 0, .ref a11, .ref a12, .int 0, .int 0, .ref a13, .ref a14, .ref a15, .int 0, .int 0, .ref a16, .ref a17, .ref a18])), (a1, .inl (cy 0, 400, .inl (upd f_6 (1 : Int32).toNatClampNeg (vp_nar .byte ((((f_5 (0 : Int32).toNatClampNeg) >>> (16 &&& 31))).toInt8.toInt32))))), (a2, .inl (cy 1, 5, .inl f_5))] := hD
  generalize ef_7 : (upd f_6 (1 : Int32).toNatClampNeg (vp_nar .byte ((((f_5 (0 : Int32).toNatClampNeg) >>> (16 &&& 31))).toInt8.toInt32))) = f_7 at hP hD
  refine lv_iinc (v := 2) (lv' := [(6, .int 2), (0, .ref h0), (1, .int p0), (2, .int p1), (3, .int p2), (4, .int p3), (5, .int p4)]) hx hb dX12_feed_100 hl (k := 0) rfl (by decide) (by decide) rfl (fun ls hl => ?_)
  refine lv_goto (tgt := 60) hx hb dX12_feed_103 (by decide) ?_
  refine lv_iload hx hb dX12_feed_60 (lv_at hl 0 rfl) ?_
  refine lv_bipush (v := 20) hx hb dX12_feed_62 (by decide) ?_
  refine lv_icmp_ge (tgt := 106) hx hb dX12_feed_64 (by decide) (fun c9 => absurd c9 (by decide)) (fun _ => ?_)
  refine lv_aload_n hx hb dX12_feed_67 rfl (lv_at hl 1 rfl) ?_
  refine va_get (D := G) (ci := 11) (v := .ref a1) (C := RX12) (T := TX12) (N := 38) hx hb hU in_X12 hown hK.1 hP 0 rfl rfl 1 (by decide) (hU _ u_1506) (fun _ h9 => h9) rfl dX12_feed_68 ?_
  refine lv_aload_n hx hb dX12_feed_71 rfl (lv_at hl 1 rfl) ?_
  refine va_get (D := G) (ci := 11) (v := .int 0) (C := RX12) (T := TX12) (N := 38) hx hb hU in_X12 hown hK.1 hP 0 rfl rfl 2 (by decide) (hU _ u_1507) (fun _ h9 => h9) rfl dX12_feed_72 ?_
  refine lv_iload hx hb dX12_feed_75 (lv_at hl 0 rfl) ?_
  refine lv_iadd hx hb dX12_feed_77 (lx_top (y := 2) (by decide +kernel) ?_)
  refine lv_aload_n hx hb dX12_feed_78 rfl (lv_at hl 1 rfl) ?_
  refine va_get (D := G) (ci := 11) (v := .ref a2) (C := RX12) (T := TX12) (N := 38) hx hb hU in_X12 hown hK.1 hP 0 rfl rfl 3 (by decide) (hU _ u_1508) (fun _ h9 => h9) rfl dX12_feed_79 ?_
  refine lv_iload hx hb dX12_feed_82 (lv_at hl 0 rfl) ?_
  refine lv_iconst (v := 4) hx hb dX12_feed_84 (by decide) ?_
  refine lv_idiv hx hb dX12_feed_85 (by decide) (lx_top (y := 0) (by decide +kernel) ?_)
  refine va_iald hx hb hK.1 hP 2 1 rfl rfl (lx_in (by decide +kernel)) dX12_feed_86 ?_
  refine lv_bipush (v := 24) hx hb dX12_feed_87 (by decide) ?_
  refine lv_bipush (v := 8) hx hb dX12_feed_89 (by decide) ?_
  refine lv_iload hx hb dX12_feed_91 (lv_at hl 0 rfl) ?_
  refine lv_iconst (v := 4) hx hb dX12_feed_93 (by decide) ?_
  refine lv_irem hx hb dX12_feed_94 (by decide) (lx_top (y := 2) (by decide +kernel) ?_)
  refine lv_imul hx hb dX12_feed_95 (lx_top (y := 16) (by decide +kernel) ?_)
  refine lv_isub hx hb dX12_feed_96 (lx_top (y := 8) (by decide +kernel) ?_)
  refine lv_ishr hx hb dX12_feed_97 ?_
  refine lv_i2b hx hb dX12_feed_98 rfl ?_
  refine va_bast hx hb hK.1 hP hD hS 1 0 rfl rfl (lx_in (by decide +kernel)) dX12_feed_99 (fun H locs hP hD hS => ?_)
  have hP : va_P G vwCl [(h0, .inr (11, [.int 0, .ref a1, .int 0, .ref a2, .int 0, .int 0, .int 0, .int 0, .int (-1), .ref a3, .ref a4, .int 0, .int 0, .int 0, .ref a5, .ref a6, .int 0, .int (-1), .int 0, .int 0, .ref a7, .ref a8, .ref a9, .ref a10, .int 0, .int 0, .ref a11, .ref a12, .int 0, .int 0, .ref a13, .ref a14, .ref a15, .int 0, .int 0, .ref a16, .ref a17, .ref a18])), (a1, .inl (cy 0, 400, .inl (upd f_7 (2 : Int32).toNatClampNeg (vp_nar .byte ((((f_5 (0 : Int32).toNatClampNeg) >>> (8 &&& 31))).toInt8.toInt32))))), (a2, .inl (cy 1, 5, .inl f_5))] H := hP
  have hD : va_D A [(h0, .inr (11, [.int 0, .ref a1, .int 0, .ref a2, .int 0, .int 0, .int 0, .int 0, .int (-1), .ref a3, .ref a4, .int 0, .int 0, .int 0, .ref a5, .ref a6, .int 0, .int (-1), .int 0, .int 0, .ref a7, .ref a8, .ref a9, .ref a10, .int 0, .int 0, .ref a11, .ref a12, .int 0, .int 0, .ref a13, .ref a14, .ref a15, .int 0, .int 0, .ref a16, .ref a17, .ref a18])), (a1, .inl (cy 0, 400, .inl (upd f_7 (2 : Int32).toNatClampNeg (vp_nar .byte ((((f_5 (0 : Int32).toNatClampNeg) >>> (8 &&& 31))).toInt8.toInt32))))), (a2, .inl (cy 1, 5, .inl f_5))] := hD
  generalize ef_8 : (upd f_7 (2 : Int32).toNatClampNeg (vp_nar .byte ((((f_5 (0 : Int32).toNatClampNeg) >>> (8 &&& 31))).toInt8.toInt32))) = f_8 at hP hD
  refine lv_iinc (v := 3) (lv' := [(6, .int 3), (0, .ref h0), (1, .int p0), (2, .int p1), (3, .int p2), (4, .int p3), (5, .int p4)]) hx hb dX12_feed_100 hl (k := 0) rfl (by decide) (by decide) rfl (fun ls hl => ?_)
  refine lv_goto (tgt := 60) hx hb dX12_feed_103 (by decide) ?_
  refine lv_iload hx hb dX12_feed_60 (lv_at hl 0 rfl) ?_
  refine lv_bipush (v := 20) hx hb dX12_feed_62 (by decide) ?_
  refine lv_icmp_ge (tgt := 106) hx hb dX12_feed_64 (by decide) (fun c9 => absurd c9 (by decide)) (fun _ => ?_)
  refine lv_aload_n hx hb dX12_feed_67 rfl (lv_at hl 1 rfl) ?_
  refine va_get (D := G) (ci := 11) (v := .ref a1) (C := RX12) (T := TX12) (N := 38) hx hb hU in_X12 hown hK.1 hP 0 rfl rfl 1 (by decide) (hU _ u_1506) (fun _ h9 => h9) rfl dX12_feed_68 ?_
  refine lv_aload_n hx hb dX12_feed_71 rfl (lv_at hl 1 rfl) ?_
  refine va_get (D := G) (ci := 11) (v := .int 0) (C := RX12) (T := TX12) (N := 38) hx hb hU in_X12 hown hK.1 hP 0 rfl rfl 2 (by decide) (hU _ u_1507) (fun _ h9 => h9) rfl dX12_feed_72 ?_
  refine lv_iload hx hb dX12_feed_75 (lv_at hl 0 rfl) ?_
  refine lv_iadd hx hb dX12_feed_77 (lx_top (y := 3) (by decide +kernel) ?_)
  refine lv_aload_n hx hb dX12_feed_78 rfl (lv_at hl 1 rfl) ?_
  refine va_get (D := G) (ci := 11) (v := .ref a2) (C := RX12) (T := TX12) (N := 38) hx hb hU in_X12 hown hK.1 hP 0 rfl rfl 3 (by decide) (hU _ u_1508) (fun _ h9 => h9) rfl dX12_feed_79 ?_
  refine lv_iload hx hb dX12_feed_82 (lv_at hl 0 rfl) ?_
  refine lv_iconst (v := 4) hx hb dX12_feed_84 (by decide) ?_
  refine lv_idiv hx hb dX12_feed_85 (by decide) (lx_top (y := 0) (by decide +kernel) ?_)
  refine va_iald hx hb hK.1 hP 2 1 rfl rfl (lx_in (by decide +kernel)) dX12_feed_86 ?_
  refine lv_bipush (v := 24) hx hb dX12_feed_87 (by decide) ?_
  refine lv_bipush (v := 8) hx hb dX12_feed_89 (by decide) ?_
  refine lv_iload hx hb dX12_feed_91 (lv_at hl 0 rfl) ?_
  refine lv_iconst (v := 4) hx hb dX12_feed_93 (by decide) ?_
  refine lv_irem hx hb dX12_feed_94 (by decide) (lx_top (y := 3) (by decide +kernel) ?_)
  refine lv_imul hx hb dX12_feed_95 (lx_top (y := 24) (by decide +kernel) ?_)
  refine lv_isub hx hb dX12_feed_96 (lx_top (y := 0) (by decide +kernel) ?_)
  refine lv_ishr hx hb dX12_feed_97 ?_
  refine lv_i2b hx hb dX12_feed_98 rfl ?_
  refine va_bast hx hb hK.1 hP hD hS 1 0 rfl rfl (lx_in (by decide +kernel)) dX12_feed_99 (fun H locs hP hD hS => ?_)
  have hP : va_P G vwCl [(h0, .inr (11, [.int 0, .ref a1, .int 0, .ref a2, .int 0, .int 0, .int 0, .int 0, .int (-1), .ref a3, .ref a4, .int 0, .int 0, .int 0, .ref a5, .ref a6, .int 0, .int (-1), .int 0, .int 0, .ref a7, .ref a8, .ref a9, .ref a10, .int 0, .int 0, .ref a11, .ref a12, .int 0, .int 0, .ref a13, .ref a14, .ref a15, .int 0, .int 0, .ref a16, .ref a17, .ref a18])), (a1, .inl (cy 0, 400, .inl (upd f_8 (3 : Int32).toNatClampNeg (vp_nar .byte ((((f_5 (0 : Int32).toNatClampNeg) >>> (0 &&& 31))).toInt8.toInt32))))), (a2, .inl (cy 1, 5, .inl f_5))] H := hP
  have hD : va_D A [(h0, .inr (11, [.int 0, .ref a1, .int 0, .ref a2, .int 0, .int 0, .int 0, .int 0, .int (-1), .ref a3, .ref a4, .int 0, .int 0, .int 0, .ref a5, .ref a6, .int 0, .int (-1), .int 0, .int 0, .ref a7, .ref a8, .ref a9, .ref a10, .int 0, .int 0, .ref a11, .ref a12, .int 0, .int 0, .ref a13, .ref a14, .ref a15, .int 0, .int 0, .ref a16, .ref a17, .ref a18])), (a1, .inl (cy 0, 400, .inl (upd f_8 (3 : Int32).toNatClampNeg (vp_nar .byte ((((f_5 (0 : Int32).toNatClampNeg) >>> (0 &&& 31))).toInt8.toInt32))))), (a2, .inl (cy 1, 5, .inl f_5))] := hD
  generalize ef_9 : (upd f_8 (3 : Int32).toNatClampNeg (vp_nar .byte ((((f_5 (0 : Int32).toNatClampNeg) >>> (0 &&& 31))).toInt8.toInt32))) = f_9 at hP hD
  refine lv_iinc (v := 4) (lv' := [(6, .int 4), (0, .ref h0), (1, .int p0), (2, .int p1), (3, .int p2), (4, .int p3), (5, .int p4)]) hx hb dX12_feed_100 hl (k := 0) rfl (by decide) (by decide) rfl (fun ls hl => ?_)
  refine lv_goto (tgt := 60) hx hb dX12_feed_103 (by decide) ?_
  refine lv_iload hx hb dX12_feed_60 (lv_at hl 0 rfl) ?_
  refine lv_bipush (v := 20) hx hb dX12_feed_62 (by decide) ?_
  refine lv_icmp_ge (tgt := 106) hx hb dX12_feed_64 (by decide) (fun c9 => absurd c9 (by decide)) (fun _ => ?_)
  refine lv_aload_n hx hb dX12_feed_67 rfl (lv_at hl 1 rfl) ?_
  refine va_get (D := G) (ci := 11) (v := .ref a1) (C := RX12) (T := TX12) (N := 38) hx hb hU in_X12 hown hK.1 hP 0 rfl rfl 1 (by decide) (hU _ u_1506) (fun _ h9 => h9) rfl dX12_feed_68 ?_
  refine lv_aload_n hx hb dX12_feed_71 rfl (lv_at hl 1 rfl) ?_
  refine va_get (D := G) (ci := 11) (v := .int 0) (C := RX12) (T := TX12) (N := 38) hx hb hU in_X12 hown hK.1 hP 0 rfl rfl 2 (by decide) (hU _ u_1507) (fun _ h9 => h9) rfl dX12_feed_72 ?_
  refine lv_iload hx hb dX12_feed_75 (lv_at hl 0 rfl) ?_
  refine lv_iadd hx hb dX12_feed_77 (lx_top (y := 4) (by decide +kernel) ?_)
  refine lv_aload_n hx hb dX12_feed_78 rfl (lv_at hl 1 rfl) ?_
  refine va_get (D := G) (ci := 11) (v := .ref a2) (C := RX12) (T := TX12) (N := 38) hx hb hU in_X12 hown hK.1 hP 0 rfl rfl 3 (by decide) (hU _ u_1508) (fun _ h9 => h9) rfl dX12_feed_79 ?_
  refine lv_iload hx hb dX12_feed_82 (lv_at hl 0 rfl) ?_
  refine lv_iconst (v := 4) hx hb dX12_feed_84 (by decide) ?_
  refine lv_idiv hx hb dX12_feed_85 (by decide) (lx_top (y := 1) (by decide +kernel) ?_)
  refine va_iald hx hb hK.1 hP 2 1 rfl rfl (lx_in (by decide +kernel)) dX12_feed_86 ?_
  refine lv_bipush (v := 24) hx hb dX12_feed_87 (by decide) ?_
  refine lv_bipush (v := 8) hx hb dX12_feed_89 (by decide) ?_
  refine lv_iload hx hb dX12_feed_91 (lv_at hl 0 rfl) ?_
  refine lv_iconst (v := 4) hx hb dX12_feed_93 (by decide) ?_
  refine lv_irem hx hb dX12_feed_94 (by decide) (lx_top (y := 0) (by decide +kernel) ?_)
  refine lv_imul hx hb dX12_feed_95 (lx_top (y := 0) (by decide +kernel) ?_)
  refine lv_isub hx hb dX12_feed_96 (lx_top (y := 24) (by decide +kernel) ?_)
  refine lv_ishr hx hb dX12_feed_97 ?_
  refine lv_i2b hx hb dX12_feed_98 rfl ?_
  refine va_bast hx hb hK.1 hP hD hS 1 0 rfl rfl (lx_in (by decide +kernel)) dX12_feed_99 (fun H locs hP hD hS => ?_)
  have hP : va_P G vwCl [(h0, .inr (11, [.int 0, .ref a1, .int 0, .ref a2, .int 0, .int 0, .int 0, .int 0, .int (-1), .ref a3, .ref a4, .int 0, .int 0, .int 0, .ref a5, .ref a6, .int 0, .int (-1), .int 0, .int 0, .ref a7, .ref a8, .ref a9, .ref a10, .int 0, .int 0, .ref a11, .ref a12, .int 0, .int 0, .ref a13, .ref a14, .ref a15, .int 0, .int 0, .ref a16, .ref a17, .ref a18])), (a1, .inl (cy 0, 400, .inl (upd f_9 (4 : Int32).toNatClampNeg (vp_nar .byte ((((f_5 (1 : Int32).toNatClampNeg) >>> (24 &&& 31))).toInt8.toInt32))))), (a2, .inl (cy 1, 5, .inl f_5))] H := hP
  have hD : va_D A [(h0, .inr (11, [.int 0, .ref a1, .int 0, .ref a2, .int 0, .int 0, .int 0, .int 0, .int (-1), .ref a3, .ref a4, .int 0, .int 0, .int 0, .ref a5, .ref a6, .int 0, .int (-1), .int 0, .int 0, .ref a7, .ref a8, .ref a9, .ref a10, .int 0, .int 0, .ref a11, .ref a12, .int 0, .int 0, .ref a13, .ref a14, .ref a15, .int 0, .int 0, .ref a16, .ref a17, .ref a18])), (a1, .inl (cy 0, 400, .inl (upd f_9 (4 : Int32).toNatClampNeg (vp_nar .byte ((((f_5 (1 : Int32).toNatClampNeg) >>> (24 &&& 31))).toInt8.toInt32))))), (a2, .inl (cy 1, 5, .inl f_5))] := hD
  generalize ef_10 : (upd f_9 (4 : Int32).toNatClampNeg (vp_nar .byte ((((f_5 (1 : Int32).toNatClampNeg) >>> (24 &&& 31))).toInt8.toInt32))) = f_10 at hP hD
  refine lv_iinc (v := 5) (lv' := [(6, .int 5), (0, .ref h0), (1, .int p0), (2, .int p1), (3, .int p2), (4, .int p3), (5, .int p4)]) hx hb dX12_feed_100 hl (k := 0) rfl (by decide) (by decide) rfl (fun ls hl => ?_)
  refine lv_goto (tgt := 60) hx hb dX12_feed_103 (by decide) ?_
  refine lv_iload hx hb dX12_feed_60 (lv_at hl 0 rfl) ?_
  refine lv_bipush (v := 20) hx hb dX12_feed_62 (by decide) ?_
  refine lv_icmp_ge (tgt := 106) hx hb dX12_feed_64 (by decide) (fun c9 => absurd c9 (by decide)) (fun _ => ?_)
  refine lv_aload_n hx hb dX12_feed_67 rfl (lv_at hl 1 rfl) ?_
  refine va_get (D := G) (ci := 11) (v := .ref a1) (C := RX12) (T := TX12) (N := 38) hx hb hU in_X12 hown hK.1 hP 0 rfl rfl 1 (by decide) (hU _ u_1506) (fun _ h9 => h9) rfl dX12_feed_68 ?_
  refine lv_aload_n hx hb dX12_feed_71 rfl (lv_at hl 1 rfl) ?_
  refine va_get (D := G) (ci := 11) (v := .int 0) (C := RX12) (T := TX12) (N := 38) hx hb hU in_X12 hown hK.1 hP 0 rfl rfl 2 (by decide) (hU _ u_1507) (fun _ h9 => h9) rfl dX12_feed_72 ?_
  refine lv_iload hx hb dX12_feed_75 (lv_at hl 0 rfl) ?_
  refine lv_iadd hx hb dX12_feed_77 (lx_top (y := 5) (by decide +kernel) ?_)
  refine lv_aload_n hx hb dX12_feed_78 rfl (lv_at hl 1 rfl) ?_
  refine va_get (D := G) (ci := 11) (v := .ref a2) (C := RX12) (T := TX12) (N := 38) hx hb hU in_X12 hown hK.1 hP 0 rfl rfl 3 (by decide) (hU _ u_1508) (fun _ h9 => h9) rfl dX12_feed_79 ?_
  refine lv_iload hx hb dX12_feed_82 (lv_at hl 0 rfl) ?_
  refine lv_iconst (v := 4) hx hb dX12_feed_84 (by decide) ?_
  refine lv_idiv hx hb dX12_feed_85 (by decide) (lx_top (y := 1) (by decide +kernel) ?_)
  refine va_iald hx hb hK.1 hP 2 1 rfl rfl (lx_in (by decide +kernel)) dX12_feed_86 ?_
  refine lv_bipush (v := 24) hx hb dX12_feed_87 (by decide) ?_
  refine lv_bipush (v := 8) hx hb dX12_feed_89 (by decide) ?_
  refine lv_iload hx hb dX12_feed_91 (lv_at hl 0 rfl) ?_
  refine lv_iconst (v := 4) hx hb dX12_feed_93 (by decide) ?_
  refine lv_irem hx hb dX12_feed_94 (by decide) (lx_top (y := 1) (by decide +kernel) ?_)
  refine lv_imul hx hb dX12_feed_95 (lx_top (y := 8) (by decide +kernel) ?_)
  refine lv_isub hx hb dX12_feed_96 (lx_top (y := 16) (by decide +kernel) ?_)
  refine lv_ishr hx hb dX12_feed_97 ?_
  refine lv_i2b hx hb dX12_feed_98 rfl ?_
  refine va_bast hx hb hK.1 hP hD hS 1 0 rfl rfl (lx_in (by decide +kernel)) dX12_feed_99 (fun H locs hP hD hS => ?_)
  have hP : va_P G vwCl [(h0, .inr (11, [.int 0, .ref a1, .int 0, .ref a2, .int 0, .int 0, .int 0, .int 0, .int (-1), .ref a3, .ref a4, .int 0, .int 0, .int 0, .ref a5, .ref a6, .int 0, .int (-1), .int 0, .int 0, .ref a7, .ref a8, .ref a9, .ref a10, .int 0, .int 0, .ref a11, .ref a12, .int 0, .int 0, .ref a13, .ref a14, .ref a15, .int 0, .int 0, .ref a16, .ref a17, .ref a18])), (a1, .inl (cy 0, 400, .inl (upd f_10 (5 : Int32).toNatClampNeg (vp_nar .byte ((((f_5 (1 : Int32).toNatClampNeg) >>> (16 &&& 31))).toInt8.toInt32))))), (a2, .inl (cy 1, 5, .inl f_5))] H := hP
  have hD : va_D A [(h0, .inr (11, [.int 0, .ref a1, .int 0, .ref a2, .int 0, .int 0, .int 0, .int 0, .int (-1), .ref a3, .ref a4, .int 0, .int 0, .int 0, .ref a5, .ref a6, .int 0, .int (-1), .int 0, .int 0, .ref a7, .ref a8, .ref a9, .ref a10, .int 0, .int 0, .ref a11, .ref a12, .int 0, .int 0, .ref a13, .ref a14, .ref a15, .int 0, .int 0, .ref a16, .ref a17, .ref a18])), (a1, .inl (cy 0, 400, .inl (upd f_10 (5 : Int32).toNatClampNeg (vp_nar .byte ((((f_5 (1 : Int32).toNatClampNeg) >>> (16 &&& 31))).toInt8.toInt32))))), (a2, .inl (cy 1, 5, .inl f_5))] := hD
  generalize ef_11 : (upd f_10 (5 : Int32).toNatClampNeg (vp_nar .byte ((((f_5 (1 : Int32).toNatClampNeg) >>> (16 &&& 31))).toInt8.toInt32))) = f_11 at hP hD
  refine lv_iinc (v := 6) (lv' := [(6, .int 6), (0, .ref h0), (1, .int p0), (2, .int p1), (3, .int p2), (4, .int p3), (5, .int p4)]) hx hb dX12_feed_100 hl (k := 0) rfl (by decide) (by decide) rfl (fun ls hl => ?_)
  refine lv_goto (tgt := 60) hx hb dX12_feed_103 (by decide) ?_
  refine lv_iload hx hb dX12_feed_60 (lv_at hl 0 rfl) ?_
  refine lv_bipush (v := 20) hx hb dX12_feed_62 (by decide) ?_
  refine lv_icmp_ge (tgt := 106) hx hb dX12_feed_64 (by decide) (fun c9 => absurd c9 (by decide)) (fun _ => ?_)
  refine lv_aload_n hx hb dX12_feed_67 rfl (lv_at hl 1 rfl) ?_
  refine va_get (D := G) (ci := 11) (v := .ref a1) (C := RX12) (T := TX12) (N := 38) hx hb hU in_X12 hown hK.1 hP 0 rfl rfl 1 (by decide) (hU _ u_1506) (fun _ h9 => h9) rfl dX12_feed_68 ?_
  refine lv_aload_n hx hb dX12_feed_71 rfl (lv_at hl 1 rfl) ?_
  refine va_get (D := G) (ci := 11) (v := .int 0) (C := RX12) (T := TX12) (N := 38) hx hb hU in_X12 hown hK.1 hP 0 rfl rfl 2 (by decide) (hU _ u_1507) (fun _ h9 => h9) rfl dX12_feed_72 ?_
  refine lv_iload hx hb dX12_feed_75 (lv_at hl 0 rfl) ?_
  refine lv_iadd hx hb dX12_feed_77 (lx_top (y := 6) (by decide +kernel) ?_)
  refine lv_aload_n hx hb dX12_feed_78 rfl (lv_at hl 1 rfl) ?_
  refine va_get (D := G) (ci := 11) (v := .ref a2) (C := RX12) (T := TX12) (N := 38) hx hb hU in_X12 hown hK.1 hP 0 rfl rfl 3 (by decide) (hU _ u_1508) (fun _ h9 => h9) rfl dX12_feed_79 ?_
  refine lv_iload hx hb dX12_feed_82 (lv_at hl 0 rfl) ?_
  refine lv_iconst (v := 4) hx hb dX12_feed_84 (by decide) ?_
  refine lv_idiv hx hb dX12_feed_85 (by decide) (lx_top (y := 1) (by decide +kernel) ?_)
  refine va_iald hx hb hK.1 hP 2 1 rfl rfl (lx_in (by decide +kernel)) dX12_feed_86 ?_
  refine lv_bipush (v := 24) hx hb dX12_feed_87 (by decide) ?_
  refine lv_bipush (v := 8) hx hb dX12_feed_89 (by decide) ?_
  refine lv_iload hx hb dX12_feed_91 (lv_at hl 0 rfl) ?_
  refine lv_iconst (v := 4) hx hb dX12_feed_93 (by decide) ?_
  refine lv_irem hx hb dX12_feed_94 (by decide) (lx_top (y := 2) (by decide +kernel) ?_)
  refine lv_imul hx hb dX12_feed_95 (lx_top (y := 16) (by decide +kernel) ?_)
  refine lv_isub hx hb dX12_feed_96 (lx_top (y := 8) (by decide +kernel) ?_)
  refine lv_ishr hx hb dX12_feed_97 ?_
  refine lv_i2b hx hb dX12_feed_98 rfl ?_
  refine va_bast hx hb hK.1 hP hD hS 1 0 rfl rfl (lx_in (by decide +kernel)) dX12_feed_99 (fun H locs hP hD hS => ?_)
  have hP : va_P G vwCl [(h0, .inr (11, [.int 0, .ref a1, .int 0, .ref a2, .int 0, .int 0, .int 0, .int 0, .int (-1), .ref a3, .ref a4, .int 0, .int 0, .int 0, .ref a5, .ref a6, .int 0, .int (-1), .int 0, .int 0, .ref a7, .ref a8, .ref a9, .ref a10, .int 0, .int 0, .ref a11, .ref a12, .int 0, .int 0, .ref a13, .ref a14, .ref a15, .int 0, .int 0, .ref a16, .ref a17, .ref a18])), (a1, .inl (cy 0, 400, .inl (upd f_11 (6 : Int32).toNatClampNeg (vp_nar .byte ((((f_5 (1 : Int32).toNatClampNeg) >>> (8 &&& 31))).toInt8.toInt32))))), (a2, .inl (cy 1, 5, .inl f_5))] H := hP
  have hD : va_D A [(h0, .inr (11, [.int 0, .ref a1, .int 0, .ref a2, .int 0, .int 0, .int 0, .int 0, .int (-1), .ref a3, .ref a4, .int 0, .int 0, .int 0, .ref a5, .ref a6, .int 0, .int (-1), .int 0, .int 0, .ref a7, .ref a8, .ref a9, .ref a10, .int 0, .int 0, .ref a11, .ref a12, .int 0, .int 0, .ref a13, .ref a14, .ref a15, .int 0, .int 0, .ref a16, .ref a17, .ref a18])), (a1, .inl (cy 0, 400, .inl (upd f_11 (6 : Int32).toNatClampNeg (vp_nar .byte ((((f_5 (1 : Int32).toNatClampNeg) >>> (8 &&& 31))).toInt8.toInt32))))), (a2, .inl (cy 1, 5, .inl f_5))] := hD
  generalize ef_12 : (upd f_11 (6 : Int32).toNatClampNeg (vp_nar .byte ((((f_5 (1 : Int32).toNatClampNeg) >>> (8 &&& 31))).toInt8.toInt32))) = f_12 at hP hD
  refine lv_iinc (v := 7) (lv' := [(6, .int 7), (0, .ref h0), (1, .int p0), (2, .int p1), (3, .int p2), (4, .int p3), (5, .int p4)]) hx hb dX12_feed_100 hl (k := 0) rfl (by decide) (by decide) rfl (fun ls hl => ?_)
  refine lv_goto (tgt := 60) hx hb dX12_feed_103 (by decide) ?_
  refine lv_iload hx hb dX12_feed_60 (lv_at hl 0 rfl) ?_
  refine lv_bipush (v := 20) hx hb dX12_feed_62 (by decide) ?_
  refine lv_icmp_ge (tgt := 106) hx hb dX12_feed_64 (by decide) (fun c9 => absurd c9 (by decide)) (fun _ => ?_)
  refine lv_aload_n hx hb dX12_feed_67 rfl (lv_at hl 1 rfl) ?_
  refine va_get (D := G) (ci := 11) (v := .ref a1) (C := RX12) (T := TX12) (N := 38) hx hb hU in_X12 hown hK.1 hP 0 rfl rfl 1 (by decide) (hU _ u_1506) (fun _ h9 => h9) rfl dX12_feed_68 ?_
  refine lv_aload_n hx hb dX12_feed_71 rfl (lv_at hl 1 rfl) ?_
  refine va_get (D := G) (ci := 11) (v := .int 0) (C := RX12) (T := TX12) (N := 38) hx hb hU in_X12 hown hK.1 hP 0 rfl rfl 2 (by decide) (hU _ u_1507) (fun _ h9 => h9) rfl dX12_feed_72 ?_
  refine lv_iload hx hb dX12_feed_75 (lv_at hl 0 rfl) ?_
  refine lv_iadd hx hb dX12_feed_77 (lx_top (y := 7) (by decide +kernel) ?_)
  refine lv_aload_n hx hb dX12_feed_78 rfl (lv_at hl 1 rfl) ?_
  refine va_get (D := G) (ci := 11) (v := .ref a2) (C := RX12) (T := TX12) (N := 38) hx hb hU in_X12 hown hK.1 hP 0 rfl rfl 3 (by decide) (hU _ u_1508) (fun _ h9 => h9) rfl dX12_feed_79 ?_
  refine lv_iload hx hb dX12_feed_82 (lv_at hl 0 rfl) ?_
  refine lv_iconst (v := 4) hx hb dX12_feed_84 (by decide) ?_
  refine lv_idiv hx hb dX12_feed_85 (by decide) (lx_top (y := 1) (by decide +kernel) ?_)
  refine va_iald hx hb hK.1 hP 2 1 rfl rfl (lx_in (by decide +kernel)) dX12_feed_86 ?_
  refine lv_bipush (v := 24) hx hb dX12_feed_87 (by decide) ?_
  refine lv_bipush (v := 8) hx hb dX12_feed_89 (by decide) ?_
  refine lv_iload hx hb dX12_feed_91 (lv_at hl 0 rfl) ?_
  refine lv_iconst (v := 4) hx hb dX12_feed_93 (by decide) ?_
  refine lv_irem hx hb dX12_feed_94 (by decide) (lx_top (y := 3) (by decide +kernel) ?_)
  refine lv_imul hx hb dX12_feed_95 (lx_top (y := 24) (by decide +kernel) ?_)
  refine lv_isub hx hb dX12_feed_96 (lx_top (y := 0) (by decide +kernel) ?_)
  refine lv_ishr hx hb dX12_feed_97 ?_
  refine lv_i2b hx hb dX12_feed_98 rfl ?_
  refine va_bast hx hb hK.1 hP hD hS 1 0 rfl rfl (lx_in (by decide +kernel)) dX12_feed_99 (fun H locs hP hD hS => ?_)
  have hP : va_P G vwCl [(h0, .inr (11, [.int 0, .ref a1, .int 0, .ref a2, .int 0, .int 0, .int 0, .int 0, .int (-1), .ref a3, .ref a4, .int 0, .int 0, .int 0, .ref a5, .ref a6, .int 0, .int (-1), .int 0, .int 0, .ref a7, .ref a8, .ref a9, .ref a10, .int 0, .int 0, .ref a11, .ref a12, .int 0, .int 0, .ref a13, .ref a14, .ref a15, .int 0, .int 0, .ref a16, .ref a17, .ref a18])), (a1, .inl (cy 0, 400, .inl (upd f_12 (7 : Int32).toNatClampNeg (vp_nar .byte ((((f_5 (1 : Int32).toNatClampNeg) >>> (0 &&& 31))).toInt8.toInt32))))), (a2, .inl (cy 1, 5, .inl f_5))] H := hP
  have hD : va_D A [(h0, .inr (11, [.int 0, .ref a1, .int 0, .ref a2, .int 0, .int 0, .int 0, .int 0, .int (-1), .ref a3, .ref a4, .int 0, .int 0, .int 0, .ref a5, .ref a6, .int 0, .int (-1), .int 0, .int 0, .ref a7, .ref a8, .ref a9, .ref a10, .int 0, .int 0, .ref a11, .ref a12, .int 0, .int 0, .ref a13, .ref a14, .ref a15, .int 0, .int 0, .ref a16, .ref a17, .ref a18])), (a1, .inl (cy 0, 400, .inl (upd f_12 (7 : Int32).toNatClampNeg (vp_nar .byte ((((f_5 (1 : Int32).toNatClampNeg) >>> (0 &&& 31))).toInt8.toInt32))))), (a2, .inl (cy 1, 5, .inl f_5))] := hD
  generalize ef_13 : (upd f_12 (7 : Int32).toNatClampNeg (vp_nar .byte ((((f_5 (1 : Int32).toNatClampNeg) >>> (0 &&& 31))).toInt8.toInt32))) = f_13 at hP hD
  refine lv_iinc (v := 8) (lv' := [(6, .int 8), (0, .ref h0), (1, .int p0), (2, .int p1), (3, .int p2), (4, .int p3), (5, .int p4)]) hx hb dX12_feed_100 hl (k := 0) rfl (by decide) (by decide) rfl (fun ls hl => ?_)
  refine lv_goto (tgt := 60) hx hb dX12_feed_103 (by decide) ?_
  refine lv_iload hx hb dX12_feed_60 (lv_at hl 0 rfl) ?_
  refine lv_bipush (v := 20) hx hb dX12_feed_62 (by decide) ?_
  refine lv_icmp_ge (tgt := 106) hx hb dX12_feed_64 (by decide) (fun c9 => absurd c9 (by decide)) (fun _ => ?_)
  refine lv_aload_n hx hb dX12_feed_67 rfl (lv_at hl 1 rfl) ?_
  refine va_get (D := G) (ci := 11) (v := .ref a1) (C := RX12) (T := TX12) (N := 38) hx hb hU in_X12 hown hK.1 hP 0 rfl rfl 1 (by decide) (hU _ u_1506) (fun _ h9 => h9) rfl dX12_feed_68 ?_
  refine lv_aload_n hx hb dX12_feed_71 rfl (lv_at hl 1 rfl) ?_
  refine va_get (D := G) (ci := 11) (v := .int 0) (C := RX12) (T := TX12) (N := 38) hx hb hU in_X12 hown hK.1 hP 0 rfl rfl 2 (by decide) (hU _ u_1507) (fun _ h9 => h9) rfl dX12_feed_72 ?_
  refine lv_iload hx hb dX12_feed_75 (lv_at hl 0 rfl) ?_
  refine lv_iadd hx hb dX12_feed_77 (lx_top (y := 8) (by decide +kernel) ?_)
  refine lv_aload_n hx hb dX12_feed_78 rfl (lv_at hl 1 rfl) ?_
  refine va_get (D := G) (ci := 11) (v := .ref a2) (C := RX12) (T := TX12) (N := 38) hx hb hU in_X12 hown hK.1 hP 0 rfl rfl 3 (by decide) (hU _ u_1508) (fun _ h9 => h9) rfl dX12_feed_79 ?_
  refine lv_iload hx hb dX12_feed_82 (lv_at hl 0 rfl) ?_
  refine lv_iconst (v := 4) hx hb dX12_feed_84 (by decide) ?_
  refine lv_idiv hx hb dX12_feed_85 (by decide) (lx_top (y := 2) (by decide +kernel) ?_)
  refine va_iald hx hb hK.1 hP 2 1 rfl rfl (lx_in (by decide +kernel)) dX12_feed_86 ?_
  refine lv_bipush (v := 24) hx hb dX12_feed_87 (by decide) ?_
  refine lv_bipush (v := 8) hx hb dX12_feed_89 (by decide) ?_
  refine lv_iload hx hb dX12_feed_91 (lv_at hl 0 rfl) ?_
  refine lv_iconst (v := 4) hx hb dX12_feed_93 (by decide) ?_
  refine lv_irem hx hb dX12_feed_94 (by decide) (lx_top (y := 0) (by decide +kernel) ?_)
  refine lv_imul hx hb dX12_feed_95 (lx_top (y := 0) (by decide +kernel) ?_)
  refine lv_isub hx hb dX12_feed_96 (lx_top (y := 24) (by decide +kernel) ?_)
  refine lv_ishr hx hb dX12_feed_97 ?_
  refine lv_i2b hx hb dX12_feed_98 rfl ?_
  refine va_bast hx hb hK.1 hP hD hS 1 0 rfl rfl (lx_in (by decide +kernel)) dX12_feed_99 (fun H locs hP hD hS => ?_)
  have hP : va_P G vwCl [(h0, .inr (11, [.int 0, .ref a1, .int 0, .ref a2, .int 0, .int 0, .int 0, .int 0, .int (-1), .ref a3, .ref a4, .int 0, .int 0, .int 0, .ref a5, .ref a6, .int 0, .int (-1), .int 0, .int 0, .ref a7, .ref a8, .ref a9, .ref a10, .int 0, .int 0, .ref a11, .ref a12, .int 0, .int 0, .ref a13, .ref a14, .ref a15, .int 0, .int 0, .ref a16, .ref a17, .ref a18])), (a1, .inl (cy 0, 400, .inl (upd f_13 (8 : Int32).toNatClampNeg (vp_nar .byte ((((f_5 (2 : Int32).toNatClampNeg) >>> (24 &&& 31))).toInt8.toInt32))))), (a2, .inl (cy 1, 5, .inl f_5))] H := hP
  have hD : va_D A [(h0, .inr (11, [.int 0, .ref a1, .int 0, .ref a2, .int 0, .int 0, .int 0, .int 0, .int (-1), .ref a3, .ref a4, .int 0, .int 0, .int 0, .ref a5, .ref a6, .int 0, .int (-1), .int 0, .int 0, .ref a7, .ref a8, .ref a9, .ref a10, .int 0, .int 0, .ref a11, .ref a12, .int 0, .int 0, .ref a13, .ref a14, .ref a15, .int 0, .int 0, .ref a16, .ref a17, .ref a18])), (a1, .inl (cy 0, 400, .inl (upd f_13 (8 : Int32).toNatClampNeg (vp_nar .byte ((((f_5 (2 : Int32).toNatClampNeg) >>> (24 &&& 31))).toInt8.toInt32))))), (a2, .inl (cy 1, 5, .inl f_5))] := hD
  generalize ef_14 : (upd f_13 (8 : Int32).toNatClampNeg (vp_nar .byte ((((f_5 (2 : Int32).toNatClampNeg) >>> (24 &&& 31))).toInt8.toInt32))) = f_14 at hP hD
  refine lv_iinc (v := 9) (lv' := [(6, .int 9), (0, .ref h0), (1, .int p0), (2, .int p1), (3, .int p2), (4, .int p3), (5, .int p4)]) hx hb dX12_feed_100 hl (k := 0) rfl (by decide) (by decide) rfl (fun ls hl => ?_)
  refine lv_goto (tgt := 60) hx hb dX12_feed_103 (by decide) ?_
  refine lv_iload hx hb dX12_feed_60 (lv_at hl 0 rfl) ?_
  refine lv_bipush (v := 20) hx hb dX12_feed_62 (by decide) ?_
  refine lv_icmp_ge (tgt := 106) hx hb dX12_feed_64 (by decide) (fun c9 => absurd c9 (by decide)) (fun _ => ?_)
  refine lv_aload_n hx hb dX12_feed_67 rfl (lv_at hl 1 rfl) ?_
  refine va_get (D := G) (ci := 11) (v := .ref a1) (C := RX12) (T := TX12) (N := 38) hx hb hU in_X12 hown hK.1 hP 0 rfl rfl 1 (by decide) (hU _ u_1506) (fun _ h9 => h9) rfl dX12_feed_68 ?_
  refine lv_aload_n hx hb dX12_feed_71 rfl (lv_at hl 1 rfl) ?_
  refine va_get (D := G) (ci := 11) (v := .int 0) (C := RX12) (T := TX12) (N := 38) hx hb hU in_X12 hown hK.1 hP 0 rfl rfl 2 (by decide) (hU _ u_1507) (fun _ h9 => h9) rfl dX12_feed_72 ?_
  refine lv_iload hx hb dX12_feed_75 (lv_at hl 0 rfl) ?_
  refine lv_iadd hx hb dX12_feed_77 (lx_top (y := 9) (by decide +kernel) ?_)
  refine lv_aload_n hx hb dX12_feed_78 rfl (lv_at hl 1 rfl) ?_
  refine va_get (D := G) (ci := 11) (v := .ref a2) (C := RX12) (T := TX12) (N := 38) hx hb hU in_X12 hown hK.1 hP 0 rfl rfl 3 (by decide) (hU _ u_1508) (fun _ h9 => h9) rfl dX12_feed_79 ?_
  refine lv_iload hx hb dX12_feed_82 (lv_at hl 0 rfl) ?_
  refine lv_iconst (v := 4) hx hb dX12_feed_84 (by decide) ?_
  refine lv_idiv hx hb dX12_feed_85 (by decide) (lx_top (y := 2) (by decide +kernel) ?_)
  refine va_iald hx hb hK.1 hP 2 1 rfl rfl (lx_in (by decide +kernel)) dX12_feed_86 ?_
  refine lv_bipush (v := 24) hx hb dX12_feed_87 (by decide) ?_
  refine lv_bipush (v := 8) hx hb dX12_feed_89 (by decide) ?_
  refine lv_iload hx hb dX12_feed_91 (lv_at hl 0 rfl) ?_
  refine lv_iconst (v := 4) hx hb dX12_feed_93 (by decide) ?_
  refine lv_irem hx hb dX12_feed_94 (by decide) (lx_top (y := 1) (by decide +kernel) ?_)
  refine lv_imul hx hb dX12_feed_95 (lx_top (y := 8) (by decide +kernel) ?_)
  refine lv_isub hx hb dX12_feed_96 (lx_top (y := 16) (by decide +kernel) ?_)
  refine lv_ishr hx hb dX12_feed_97 ?_
  refine lv_i2b hx hb dX12_feed_98 rfl ?_
  refine va_bast hx hb hK.1 hP hD hS 1 0 rfl rfl (lx_in (by decide +kernel)) dX12_feed_99 (fun H locs hP hD hS => ?_)
  have hP : va_P G vwCl [(h0, .inr (11, [.int 0, .ref a1, .int 0, .ref a2, .int 0, .int 0, .int 0, .int 0, .int (-1), .ref a3, .ref a4, .int 0, .int 0, .int 0, .ref a5, .ref a6, .int 0, .int (-1), .int 0, .int 0, .ref a7, .ref a8, .ref a9, .ref a10, .int 0, .int 0, .ref a11, .ref a12, .int 0, .int 0, .ref a13, .ref a14, .ref a15, .int 0, .int 0, .ref a16, .ref a17, .ref a18])), (a1, .inl (cy 0, 400, .inl (upd f_14 (9 : Int32).toNatClampNeg (vp_nar .byte ((((f_5 (2 : Int32).toNatClampNeg) >>> (16 &&& 31))).toInt8.toInt32))))), (a2, .inl (cy 1, 5, .inl f_5))] H := hP
  have hD : va_D A [(h0, .inr (11, [.int 0, .ref a1, .int 0, .ref a2, .int 0, .int 0, .int 0, .int 0, .int (-1), .ref a3, .ref a4, .int 0, .int 0, .int 0, .ref a5, .ref a6, .int 0, .int (-1), .int 0, .int 0, .ref a7, .ref a8, .ref a9, .ref a10, .int 0, .int 0, .ref a11, .ref a12, .int 0, .int 0, .ref a13, .ref a14, .ref a15, .int 0, .int 0, .ref a16, .ref a17, .ref a18])), (a1, .inl (cy 0, 400, .inl (upd f_14 (9 : Int32).toNatClampNeg (vp_nar .byte ((((f_5 (2 : Int32).toNatClampNeg) >>> (16 &&& 31))).toInt8.toInt32))))), (a2, .inl (cy 1, 5, .inl f_5))] := hD
  generalize ef_15 : (upd f_14 (9 : Int32).toNatClampNeg (vp_nar .byte ((((f_5 (2 : Int32).toNatClampNeg) >>> (16 &&& 31))).toInt8.toInt32))) = f_15 at hP hD
  refine lv_iinc (v := 10) (lv' := [(6, .int 10), (0, .ref h0), (1, .int p0), (2, .int p1), (3, .int p2), (4, .int p3), (5, .int p4)]) hx hb dX12_feed_100 hl (k := 0) rfl (by decide) (by decide) rfl (fun ls hl => ?_)
  refine lv_goto (tgt := 60) hx hb dX12_feed_103 (by decide) ?_
  refine lv_iload hx hb dX12_feed_60 (lv_at hl 0 rfl) ?_
  refine lv_bipush (v := 20) hx hb dX12_feed_62 (by decide) ?_
  refine lv_icmp_ge (tgt := 106) hx hb dX12_feed_64 (by decide) (fun c9 => absurd c9 (by decide)) (fun _ => ?_)
  refine lv_aload_n hx hb dX12_feed_67 rfl (lv_at hl 1 rfl) ?_
  refine va_get (D := G) (ci := 11) (v := .ref a1) (C := RX12) (T := TX12) (N := 38) hx hb hU in_X12 hown hK.1 hP 0 rfl rfl 1 (by decide) (hU _ u_1506) (fun _ h9 => h9) rfl dX12_feed_68 ?_
  refine lv_aload_n hx hb dX12_feed_71 rfl (lv_at hl 1 rfl) ?_
  refine va_get (D := G) (ci := 11) (v := .int 0) (C := RX12) (T := TX12) (N := 38) hx hb hU in_X12 hown hK.1 hP 0 rfl rfl 2 (by decide) (hU _ u_1507) (fun _ h9 => h9) rfl dX12_feed_72 ?_
  refine lv_iload hx hb dX12_feed_75 (lv_at hl 0 rfl) ?_
  refine lv_iadd hx hb dX12_feed_77 (lx_top (y := 10) (by decide +kernel) ?_)
  refine lv_aload_n hx hb dX12_feed_78 rfl (lv_at hl 1 rfl) ?_
  refine va_get (D := G) (ci := 11) (v := .ref a2) (C := RX12) (T := TX12) (N := 38) hx hb hU in_X12 hown hK.1 hP 0 rfl rfl 3 (by decide) (hU _ u_1508) (fun _ h9 => h9) rfl dX12_feed_79 ?_
  refine lv_iload hx hb dX12_feed_82 (lv_at hl 0 rfl) ?_
  refine lv_iconst (v := 4) hx hb dX12_feed_84 (by decide) ?_
  refine lv_idiv hx hb dX12_feed_85 (by decide) (lx_top (y := 2) (by decide +kernel) ?_)
  refine va_iald hx hb hK.1 hP 2 1 rfl rfl (lx_in (by decide +kernel)) dX12_feed_86 ?_
  refine lv_bipush (v := 24) hx hb dX12_feed_87 (by decide) ?_
  refine lv_bipush (v := 8) hx hb dX12_feed_89 (by decide) ?_
  refine lv_iload hx hb dX12_feed_91 (lv_at hl 0 rfl) ?_
  refine lv_iconst (v := 4) hx hb dX12_feed_93 (by decide) ?_
  refine lv_irem hx hb dX12_feed_94 (by decide) (lx_top (y := 2) (by decide +kernel) ?_)
  refine lv_imul hx hb dX12_feed_95 (lx_top (y := 16) (by decide +kernel) ?_)
  refine lv_isub hx hb dX12_feed_96 (lx_top (y := 8) (by decide +kernel) ?_)
  refine lv_ishr hx hb dX12_feed_97 ?_
  refine lv_i2b hx hb dX12_feed_98 rfl ?_
  refine va_bast hx hb hK.1 hP hD hS 1 0 rfl rfl (lx_in (by decide +kernel)) dX12_feed_99 (fun H locs hP hD hS => ?_)
  have hP : va_P G vwCl [(h0, .inr (11, [.int 0, .ref a1, .int 0, .ref a2, .int 0, .int 0, .int 0, .int 0, .int (-1), .ref a3, .ref a4, .int 0, .int 0, .int 0, .ref a5, .ref a6, .int 0, .int (-1), .int 0, .int 0, .ref a7, .ref a8, .ref a9, .ref a10, .int 0, .int 0, .ref a11, .ref a12, .int 0, .int 0, .ref a13, .ref a14, .ref a15, .int 0, .int 0, .ref a16, .ref a17, .ref a18])), (a1, .inl (cy 0, 400, .inl (upd f_15 (10 : Int32).toNatClampNeg (vp_nar .byte ((((f_5 (2 : Int32).toNatClampNeg) >>> (8 &&& 31))).toInt8.toInt32))))), (a2, .inl (cy 1, 5, .inl f_5))] H := hP
  have hD : va_D A [(h0, .inr (11, [.int 0, .ref a1, .int 0, .ref a2, .int 0, .int 0, .int 0, .int 0, .int (-1), .ref a3, .ref a4, .int 0, .int 0, .int 0, .ref a5, .ref a6, .int 0, .int (-1), .int 0, .int 0, .ref a7, .ref a8, .ref a9, .ref a10, .int 0, .int 0, .ref a11, .ref a12, .int 0, .int 0, .ref a13, .ref a14, .ref a15, .int 0, .int 0, .ref a16, .ref a17, .ref a18])), (a1, .inl (cy 0, 400, .inl (upd f_15 (10 : Int32).toNatClampNeg (vp_nar .byte ((((f_5 (2 : Int32).toNatClampNeg) >>> (8 &&& 31))).toInt8.toInt32))))), (a2, .inl (cy 1, 5, .inl f_5))] := hD
  generalize ef_16 : (upd f_15 (10 : Int32).toNatClampNeg (vp_nar .byte ((((f_5 (2 : Int32).toNatClampNeg) >>> (8 &&& 31))).toInt8.toInt32))) = f_16 at hP hD
  refine lv_iinc (v := 11) (lv' := [(6, .int 11), (0, .ref h0), (1, .int p0), (2, .int p1), (3, .int p2), (4, .int p3), (5, .int p4)]) hx hb dX12_feed_100 hl (k := 0) rfl (by decide) (by decide) rfl (fun ls hl => ?_)
  refine lv_goto (tgt := 60) hx hb dX12_feed_103 (by decide) ?_
  refine lv_iload hx hb dX12_feed_60 (lv_at hl 0 rfl) ?_
  refine lv_bipush (v := 20) hx hb dX12_feed_62 (by decide) ?_
  refine lv_icmp_ge (tgt := 106) hx hb dX12_feed_64 (by decide) (fun c9 => absurd c9 (by decide)) (fun _ => ?_)
  refine lv_aload_n hx hb dX12_feed_67 rfl (lv_at hl 1 rfl) ?_
  refine va_get (D := G) (ci := 11) (v := .ref a1) (C := RX12) (T := TX12) (N := 38) hx hb hU in_X12 hown hK.1 hP 0 rfl rfl 1 (by decide) (hU _ u_1506) (fun _ h9 => h9) rfl dX12_feed_68 ?_
  refine lv_aload_n hx hb dX12_feed_71 rfl (lv_at hl 1 rfl) ?_
  refine va_get (D := G) (ci := 11) (v := .int 0) (C := RX12) (T := TX12) (N := 38) hx hb hU in_X12 hown hK.1 hP 0 rfl rfl 2 (by decide) (hU _ u_1507) (fun _ h9 => h9) rfl dX12_feed_72 ?_
  refine lv_iload hx hb dX12_feed_75 (lv_at hl 0 rfl) ?_
  refine lv_iadd hx hb dX12_feed_77 (lx_top (y := 11) (by decide +kernel) ?_)
  refine lv_aload_n hx hb dX12_feed_78 rfl (lv_at hl 1 rfl) ?_
  refine va_get (D := G) (ci := 11) (v := .ref a2) (C := RX12) (T := TX12) (N := 38) hx hb hU in_X12 hown hK.1 hP 0 rfl rfl 3 (by decide) (hU _ u_1508) (fun _ h9 => h9) rfl dX12_feed_79 ?_
  refine lv_iload hx hb dX12_feed_82 (lv_at hl 0 rfl) ?_
  refine lv_iconst (v := 4) hx hb dX12_feed_84 (by decide) ?_
  refine lv_idiv hx hb dX12_feed_85 (by decide) (lx_top (y := 2) (by decide +kernel) ?_)
  refine va_iald hx hb hK.1 hP 2 1 rfl rfl (lx_in (by decide +kernel)) dX12_feed_86 ?_
  refine lv_bipush (v := 24) hx hb dX12_feed_87 (by decide) ?_
  refine lv_bipush (v := 8) hx hb dX12_feed_89 (by decide) ?_
  refine lv_iload hx hb dX12_feed_91 (lv_at hl 0 rfl) ?_
  refine lv_iconst (v := 4) hx hb dX12_feed_93 (by decide) ?_
  refine lv_irem hx hb dX12_feed_94 (by decide) (lx_top (y := 3) (by decide +kernel) ?_)
  refine lv_imul hx hb dX12_feed_95 (lx_top (y := 24) (by decide +kernel) ?_)
  refine lv_isub hx hb dX12_feed_96 (lx_top (y := 0) (by decide +kernel) ?_)
  refine lv_ishr hx hb dX12_feed_97 ?_
  refine lv_i2b hx hb dX12_feed_98 rfl ?_
  refine va_bast hx hb hK.1 hP hD hS 1 0 rfl rfl (lx_in (by decide +kernel)) dX12_feed_99 (fun H locs hP hD hS => ?_)
  have hP : va_P G vwCl [(h0, .inr (11, [.int 0, .ref a1, .int 0, .ref a2, .int 0, .int 0, .int 0, .int 0, .int (-1), .ref a3, .ref a4, .int 0, .int 0, .int 0, .ref a5, .ref a6, .int 0, .int (-1), .int 0, .int 0, .ref a7, .ref a8, .ref a9, .ref a10, .int 0, .int 0, .ref a11, .ref a12, .int 0, .int 0, .ref a13, .ref a14, .ref a15, .int 0, .int 0, .ref a16, .ref a17, .ref a18])), (a1, .inl (cy 0, 400, .inl (upd f_16 (11 : Int32).toNatClampNeg (vp_nar .byte ((((f_5 (2 : Int32).toNatClampNeg) >>> (0 &&& 31))).toInt8.toInt32))))), (a2, .inl (cy 1, 5, .inl f_5))] H := hP
  have hD : va_D A [(h0, .inr (11, [.int 0, .ref a1, .int 0, .ref a2, .int 0, .int 0, .int 0, .int 0, .int (-1), .ref a3, .ref a4, .int 0, .int 0, .int 0, .ref a5, .ref a6, .int 0, .int (-1), .int 0, .int 0, .ref a7, .ref a8, .ref a9, .ref a10, .int 0, .int 0, .ref a11, .ref a12, .int 0, .int 0, .ref a13, .ref a14, .ref a15, .int 0, .int 0, .ref a16, .ref a17, .ref a18])), (a1, .inl (cy 0, 400, .inl (upd f_16 (11 : Int32).toNatClampNeg (vp_nar .byte ((((f_5 (2 : Int32).toNatClampNeg) >>> (0 &&& 31))).toInt8.toInt32))))), (a2, .inl (cy 1, 5, .inl f_5))] := hD
  generalize ef_17 : (upd f_16 (11 : Int32).toNatClampNeg (vp_nar .byte ((((f_5 (2 : Int32).toNatClampNeg) >>> (0 &&& 31))).toInt8.toInt32))) = f_17 at hP hD
  refine lv_iinc (v := 12) (lv' := [(6, .int 12), (0, .ref h0), (1, .int p0), (2, .int p1), (3, .int p2), (4, .int p3), (5, .int p4)]) hx hb dX12_feed_100 hl (k := 0) rfl (by decide) (by decide) rfl (fun ls hl => ?_)
  refine lv_goto (tgt := 60) hx hb dX12_feed_103 (by decide) ?_
  refine lv_iload hx hb dX12_feed_60 (lv_at hl 0 rfl) ?_
  refine lv_bipush (v := 20) hx hb dX12_feed_62 (by decide) ?_
  refine lv_icmp_ge (tgt := 106) hx hb dX12_feed_64 (by decide) (fun c9 => absurd c9 (by decide)) (fun _ => ?_)
  refine lv_aload_n hx hb dX12_feed_67 rfl (lv_at hl 1 rfl) ?_
  refine va_get (D := G) (ci := 11) (v := .ref a1) (C := RX12) (T := TX12) (N := 38) hx hb hU in_X12 hown hK.1 hP 0 rfl rfl 1 (by decide) (hU _ u_1506) (fun _ h9 => h9) rfl dX12_feed_68 ?_
  refine lv_aload_n hx hb dX12_feed_71 rfl (lv_at hl 1 rfl) ?_
  refine va_get (D := G) (ci := 11) (v := .int 0) (C := RX12) (T := TX12) (N := 38) hx hb hU in_X12 hown hK.1 hP 0 rfl rfl 2 (by decide) (hU _ u_1507) (fun _ h9 => h9) rfl dX12_feed_72 ?_
  refine lv_iload hx hb dX12_feed_75 (lv_at hl 0 rfl) ?_
  refine lv_iadd hx hb dX12_feed_77 (lx_top (y := 12) (by decide +kernel) ?_)
  refine lv_aload_n hx hb dX12_feed_78 rfl (lv_at hl 1 rfl) ?_
  refine va_get (D := G) (ci := 11) (v := .ref a2) (C := RX12) (T := TX12) (N := 38) hx hb hU in_X12 hown hK.1 hP 0 rfl rfl 3 (by decide) (hU _ u_1508) (fun _ h9 => h9) rfl dX12_feed_79 ?_
  refine lv_iload hx hb dX12_feed_82 (lv_at hl 0 rfl) ?_
  refine lv_iconst (v := 4) hx hb dX12_feed_84 (by decide) ?_
  refine lv_idiv hx hb dX12_feed_85 (by decide) (lx_top (y := 3) (by decide +kernel) ?_)
  refine va_iald hx hb hK.1 hP 2 1 rfl rfl (lx_in (by decide +kernel)) dX12_feed_86 ?_
  refine lv_bipush (v := 24) hx hb dX12_feed_87 (by decide) ?_
  refine lv_bipush (v := 8) hx hb dX12_feed_89 (by decide) ?_
  refine lv_iload hx hb dX12_feed_91 (lv_at hl 0 rfl) ?_
  refine lv_iconst (v := 4) hx hb dX12_feed_93 (by decide) ?_
  refine lv_irem hx hb dX12_feed_94 (by decide) (lx_top (y := 0) (by decide +kernel) ?_)
  refine lv_imul hx hb dX12_feed_95 (lx_top (y := 0) (by decide +kernel) ?_)
  refine lv_isub hx hb dX12_feed_96 (lx_top (y := 24) (by decide +kernel) ?_)
  refine lv_ishr hx hb dX12_feed_97 ?_
  refine lv_i2b hx hb dX12_feed_98 rfl ?_
  refine va_bast hx hb hK.1 hP hD hS 1 0 rfl rfl (lx_in (by decide +kernel)) dX12_feed_99 (fun H locs hP hD hS => ?_)
  have hP : va_P G vwCl [(h0, .inr (11, [.int 0, .ref a1, .int 0, .ref a2, .int 0, .int 0, .int 0, .int 0, .int (-1), .ref a3, .ref a4, .int 0, .int 0, .int 0, .ref a5, .ref a6, .int 0, .int (-1), .int 0, .int 0, .ref a7, .ref a8, .ref a9, .ref a10, .int 0, .int 0, .ref a11, .ref a12, .int 0, .int 0, .ref a13, .ref a14, .ref a15, .int 0, .int 0, .ref a16, .ref a17, .ref a18])), (a1, .inl (cy 0, 400, .inl (upd f_17 (12 : Int32).toNatClampNeg (vp_nar .byte ((((f_5 (3 : Int32).toNatClampNeg) >>> (24 &&& 31))).toInt8.toInt32))))), (a2, .inl (cy 1, 5, .inl f_5))] H := hP
  have hD : va_D A [(h0, .inr (11, [.int 0, .ref a1, .int 0, .ref a2, .int 0, .int 0, .int 0, .int 0, .int (-1), .ref a3, .ref a4, .int 0, .int 0, .int 0, .ref a5, .ref a6, .int 0, .int (-1), .int 0, .int 0, .ref a7, .ref a8, .ref a9, .ref a10, .int 0, .int 0, .ref a11, .ref a12, .int 0, .int 0, .ref a13, .ref a14, .ref a15, .int 0, .int 0, .ref a16, .ref a17, .ref a18])), (a1, .inl (cy 0, 400, .inl (upd f_17 (12 : Int32).toNatClampNeg (vp_nar .byte ((((f_5 (3 : Int32).toNatClampNeg) >>> (24 &&& 31))).toInt8.toInt32))))), (a2, .inl (cy 1, 5, .inl f_5))] := hD
  generalize ef_18 : (upd f_17 (12 : Int32).toNatClampNeg (vp_nar .byte ((((f_5 (3 : Int32).toNatClampNeg) >>> (24 &&& 31))).toInt8.toInt32))) = f_18 at hP hD
  refine lv_iinc (v := 13) (lv' := [(6, .int 13), (0, .ref h0), (1, .int p0), (2, .int p1), (3, .int p2), (4, .int p3), (5, .int p4)]) hx hb dX12_feed_100 hl (k := 0) rfl (by decide) (by decide) rfl (fun ls hl => ?_)
  refine lv_goto (tgt := 60) hx hb dX12_feed_103 (by decide) ?_
  refine lv_iload hx hb dX12_feed_60 (lv_at hl 0 rfl) ?_
  refine lv_bipush (v := 20) hx hb dX12_feed_62 (by decide) ?_
  refine lv_icmp_ge (tgt := 106) hx hb dX12_feed_64 (by decide) (fun c9 => absurd c9 (by decide)) (fun _ => ?_)
  refine lv_aload_n hx hb dX12_feed_67 rfl (lv_at hl 1 rfl) ?_
  refine va_get (D := G) (ci := 11) (v := .ref a1) (C := RX12) (T := TX12) (N := 38) hx hb hU in_X12 hown hK.1 hP 0 rfl rfl 1 (by decide) (hU _ u_1506) (fun _ h9 => h9) rfl dX12_feed_68 ?_
  refine lv_aload_n hx hb dX12_feed_71 rfl (lv_at hl 1 rfl) ?_
  refine va_get (D := G) (ci := 11) (v := .int 0) (C := RX12) (T := TX12) (N := 38) hx hb hU in_X12 hown hK.1 hP 0 rfl rfl 2 (by decide) (hU _ u_1507) (fun _ h9 => h9) rfl dX12_feed_72 ?_
  refine lv_iload hx hb dX12_feed_75 (lv_at hl 0 rfl) ?_
  refine lv_iadd hx hb dX12_feed_77 (lx_top (y := 13) (by decide +kernel) ?_)
  refine lv_aload_n hx hb dX12_feed_78 rfl (lv_at hl 1 rfl) ?_
  refine va_get (D := G) (ci := 11) (v := .ref a2) (C := RX12) (T := TX12) (N := 38) hx hb hU in_X12 hown hK.1 hP 0 rfl rfl 3 (by decide) (hU _ u_1508) (fun _ h9 => h9) rfl dX12_feed_79 ?_
  refine lv_iload hx hb dX12_feed_82 (lv_at hl 0 rfl) ?_
  refine lv_iconst (v := 4) hx hb dX12_feed_84 (by decide) ?_
  refine lv_idiv hx hb dX12_feed_85 (by decide) (lx_top (y := 3) (by decide +kernel) ?_)
  refine va_iald hx hb hK.1 hP 2 1 rfl rfl (lx_in (by decide +kernel)) dX12_feed_86 ?_
  refine lv_bipush (v := 24) hx hb dX12_feed_87 (by decide) ?_
  refine lv_bipush (v := 8) hx hb dX12_feed_89 (by decide) ?_
  refine lv_iload hx hb dX12_feed_91 (lv_at hl 0 rfl) ?_
  refine lv_iconst (v := 4) hx hb dX12_feed_93 (by decide) ?_
  refine lv_irem hx hb dX12_feed_94 (by decide) (lx_top (y := 1) (by decide +kernel) ?_)
  refine lv_imul hx hb dX12_feed_95 (lx_top (y := 8) (by decide +kernel) ?_)
  refine lv_isub hx hb dX12_feed_96 (lx_top (y := 16) (by decide +kernel) ?_)
  refine lv_ishr hx hb dX12_feed_97 ?_
  refine lv_i2b hx hb dX12_feed_98 rfl ?_
  refine va_bast hx hb hK.1 hP hD hS 1 0 rfl rfl (lx_in (by decide +kernel)) dX12_feed_99 (fun H locs hP hD hS => ?_)
  have hP : va_P G vwCl [(h0, .inr (11, [.int 0, .ref a1, .int 0, .ref a2, .int 0, .int 0, .int 0, .int 0, .int (-1), .ref a3, .ref a4, .int 0, .int 0, .int 0, .ref a5, .ref a6, .int 0, .int (-1), .int 0, .int 0, .ref a7, .ref a8, .ref a9, .ref a10, .int 0, .int 0, .ref a11, .ref a12, .int 0, .int 0, .ref a13, .ref a14, .ref a15, .int 0, .int 0, .ref a16, .ref a17, .ref a18])), (a1, .inl (cy 0, 400, .inl (upd f_18 (13 : Int32).toNatClampNeg (vp_nar .byte ((((f_5 (3 : Int32).toNatClampNeg) >>> (16 &&& 31))).toInt8.toInt32))))), (a2, .inl (cy 1, 5, .inl f_5))] H := hP
  have hD : va_D A [(h0, .inr (11, [.int 0, .ref a1, .int 0, .ref a2, .int 0, .int 0, .int 0, .int 0, .int (-1), .ref a3, .ref a4, .int 0, .int 0, .int 0, .ref a5, .ref a6, .int 0, .int (-1), .int 0, .int 0, .ref a7, .ref a8, .ref a9, .ref a10, .int 0, .int 0, .ref a11, .ref a12, .int 0, .int 0, .ref a13, .ref a14, .ref a15, .int 0, .int 0, .ref a16, .ref a17, .ref a18])), (a1, .inl (cy 0, 400, .inl (upd f_18 (13 : Int32).toNatClampNeg (vp_nar .byte ((((f_5 (3 : Int32).toNatClampNeg) >>> (16 &&& 31))).toInt8.toInt32))))), (a2, .inl (cy 1, 5, .inl f_5))] := hD
  generalize ef_19 : (upd f_18 (13 : Int32).toNatClampNeg (vp_nar .byte ((((f_5 (3 : Int32).toNatClampNeg) >>> (16 &&& 31))).toInt8.toInt32))) = f_19 at hP hD
  refine lv_iinc (v := 14) (lv' := [(6, .int 14), (0, .ref h0), (1, .int p0), (2, .int p1), (3, .int p2), (4, .int p3), (5, .int p4)]) hx hb dX12_feed_100 hl (k := 0) rfl (by decide) (by decide) rfl (fun ls hl => ?_)
  refine lv_goto (tgt := 60) hx hb dX12_feed_103 (by decide) ?_
  refine lv_iload hx hb dX12_feed_60 (lv_at hl 0 rfl) ?_
  refine lv_bipush (v := 20) hx hb dX12_feed_62 (by decide) ?_
  refine lv_icmp_ge (tgt := 106) hx hb dX12_feed_64 (by decide) (fun c9 => absurd c9 (by decide)) (fun _ => ?_)
  refine lv_aload_n hx hb dX12_feed_67 rfl (lv_at hl 1 rfl) ?_
  refine va_get (D := G) (ci := 11) (v := .ref a1) (C := RX12) (T := TX12) (N := 38) hx hb hU in_X12 hown hK.1 hP 0 rfl rfl 1 (by decide) (hU _ u_1506) (fun _ h9 => h9) rfl dX12_feed_68 ?_
  refine lv_aload_n hx hb dX12_feed_71 rfl (lv_at hl 1 rfl) ?_
  refine va_get (D := G) (ci := 11) (v := .int 0) (C := RX12) (T := TX12) (N := 38) hx hb hU in_X12 hown hK.1 hP 0 rfl rfl 2 (by decide) (hU _ u_1507) (fun _ h9 => h9) rfl dX12_feed_72 ?_
  refine lv_iload hx hb dX12_feed_75 (lv_at hl 0 rfl) ?_
  refine lv_iadd hx hb dX12_feed_77 (lx_top (y := 14) (by decide +kernel) ?_)
  refine lv_aload_n hx hb dX12_feed_78 rfl (lv_at hl 1 rfl) ?_
  refine va_get (D := G) (ci := 11) (v := .ref a2) (C := RX12) (T := TX12) (N := 38) hx hb hU in_X12 hown hK.1 hP 0 rfl rfl 3 (by decide) (hU _ u_1508) (fun _ h9 => h9) rfl dX12_feed_79 ?_
  refine lv_iload hx hb dX12_feed_82 (lv_at hl 0 rfl) ?_
  refine lv_iconst (v := 4) hx hb dX12_feed_84 (by decide) ?_
  refine lv_idiv hx hb dX12_feed_85 (by decide) (lx_top (y := 3) (by decide +kernel) ?_)
  refine va_iald hx hb hK.1 hP 2 1 rfl rfl (lx_in (by decide +kernel)) dX12_feed_86 ?_
  refine lv_bipush (v := 24) hx hb dX12_feed_87 (by decide) ?_
  refine lv_bipush (v := 8) hx hb dX12_feed_89 (by decide) ?_
  refine lv_iload hx hb dX12_feed_91 (lv_at hl 0 rfl) ?_
  refine lv_iconst (v := 4) hx hb dX12_feed_93 (by decide) ?_
  refine lv_irem hx hb dX12_feed_94 (by decide) (lx_top (y := 2) (by decide +kernel) ?_)
  refine lv_imul hx hb dX12_feed_95 (lx_top (y := 16) (by decide +kernel) ?_)
  refine lv_isub hx hb dX12_feed_96 (lx_top (y := 8) (by decide +kernel) ?_)
  refine lv_ishr hx hb dX12_feed_97 ?_
  refine lv_i2b hx hb dX12_feed_98 rfl ?_
  refine va_bast hx hb hK.1 hP hD hS 1 0 rfl rfl (lx_in (by decide +kernel)) dX12_feed_99 (fun H locs hP hD hS => ?_)
  have hP : va_P G vwCl [(h0, .inr (11, [.int 0, .ref a1, .int 0, .ref a2, .int 0, .int 0, .int 0, .int 0, .int (-1), .ref a3, .ref a4, .int 0, .int 0, .int 0, .ref a5, .ref a6, .int 0, .int (-1), .int 0, .int 0, .ref a7, .ref a8, .ref a9, .ref a10, .int 0, .int 0, .ref a11, .ref a12, .int 0, .int 0, .ref a13, .ref a14, .ref a15, .int 0, .int 0, .ref a16, .ref a17, .ref a18])), (a1, .inl (cy 0, 400, .inl (upd f_19 (14 : Int32).toNatClampNeg (vp_nar .byte ((((f_5 (3 : Int32).toNatClampNeg) >>> (8 &&& 31))).toInt8.toInt32))))), (a2, .inl (cy 1, 5, .inl f_5))] H := hP
  have hD : va_D A [(h0, .inr (11, [.int 0, .ref a1, .int 0, .ref a2, .int 0, .int 0, .int 0, .int 0, .int (-1), .ref a3, .ref a4, .int 0, .int 0, .int 0, .ref a5, .ref a6, .int 0, .int (-1), .int 0, .int 0, .ref a7, .ref a8, .ref a9, .ref a10, .int 0, .int 0, .ref a11, .ref a12, .int 0, .int 0, .ref a13, .ref a14, .ref a15, .int 0, .int 0, .ref a16, .ref a17, .ref a18])), (a1, .inl (cy 0, 400, .inl (upd f_19 (14 : Int32).toNatClampNeg (vp_nar .byte ((((f_5 (3 : Int32).toNatClampNeg) >>> (8 &&& 31))).toInt8.toInt32))))), (a2, .inl (cy 1, 5, .inl f_5))] := hD
  generalize ef_20 : (upd f_19 (14 : Int32).toNatClampNeg (vp_nar .byte ((((f_5 (3 : Int32).toNatClampNeg) >>> (8 &&& 31))).toInt8.toInt32))) = f_20 at hP hD
  refine lv_iinc (v := 15) (lv' := [(6, .int 15), (0, .ref h0), (1, .int p0), (2, .int p1), (3, .int p2), (4, .int p3), (5, .int p4)]) hx hb dX12_feed_100 hl (k := 0) rfl (by decide) (by decide) rfl (fun ls hl => ?_)
  refine lv_goto (tgt := 60) hx hb dX12_feed_103 (by decide) ?_
  refine lv_iload hx hb dX12_feed_60 (lv_at hl 0 rfl) ?_
  refine lv_bipush (v := 20) hx hb dX12_feed_62 (by decide) ?_
  refine lv_icmp_ge (tgt := 106) hx hb dX12_feed_64 (by decide) (fun c9 => absurd c9 (by decide)) (fun _ => ?_)
  refine lv_aload_n hx hb dX12_feed_67 rfl (lv_at hl 1 rfl) ?_
  refine va_get (D := G) (ci := 11) (v := .ref a1) (C := RX12) (T := TX12) (N := 38) hx hb hU in_X12 hown hK.1 hP 0 rfl rfl 1 (by decide) (hU _ u_1506) (fun _ h9 => h9) rfl dX12_feed_68 ?_
  refine lv_aload_n hx hb dX12_feed_71 rfl (lv_at hl 1 rfl) ?_
  refine va_get (D := G) (ci := 11) (v := .int 0) (C := RX12) (T := TX12) (N := 38) hx hb hU in_X12 hown hK.1 hP 0 rfl rfl 2 (by decide) (hU _ u_1507) (fun _ h9 => h9) rfl dX12_feed_72 ?_
  refine lv_iload hx hb dX12_feed_75 (lv_at hl 0 rfl) ?_
  refine lv_iadd hx hb dX12_feed_77 (lx_top (y := 15) (by decide +kernel) ?_)
  refine lv_aload_n hx hb dX12_feed_78 rfl (lv_at hl 1 rfl) ?_
  refine va_get (D := G) (ci := 11) (v := .ref a2) (C := RX12) (T := TX12) (N := 38) hx hb hU in_X12 hown hK.1 hP 0 rfl rfl 3 (by decide) (hU _ u_1508) (fun _ h9 => h9) rfl dX12_feed_79 ?_
  refine lv_iload hx hb dX12_feed_82 (lv_at hl 0 rfl) ?_
  refine lv_iconst (v := 4) hx hb dX12_feed_84 (by decide) ?_
  refine lv_idiv hx hb dX12_feed_85 (by decide) (lx_top (y := 3) (by decide +kernel) ?_)
  refine va_iald hx hb hK.1 hP 2 1 rfl rfl (lx_in (by decide +kernel)) dX12_feed_86 ?_
  refine lv_bipush (v := 24) hx hb dX12_feed_87 (by decide) ?_
  refine lv_bipush (v := 8) hx hb dX12_feed_89 (by decide) ?_
  refine lv_iload hx hb dX12_feed_91 (lv_at hl 0 rfl) ?_
  refine lv_iconst (v := 4) hx hb dX12_feed_93 (by decide) ?_
  refine lv_irem hx hb dX12_feed_94 (by decide) (lx_top (y := 3) (by decide +kernel) ?_)
  refine lv_imul hx hb dX12_feed_95 (lx_top (y := 24) (by decide +kernel) ?_)
  refine lv_isub hx hb dX12_feed_96 (lx_top (y := 0) (by decide +kernel) ?_)
  refine lv_ishr hx hb dX12_feed_97 ?_
  refine lv_i2b hx hb dX12_feed_98 rfl ?_
  refine va_bast hx hb hK.1 hP hD hS 1 0 rfl rfl (lx_in (by decide +kernel)) dX12_feed_99 (fun H locs hP hD hS => ?_)
  have hP : va_P G vwCl [(h0, .inr (11, [.int 0, .ref a1, .int 0, .ref a2, .int 0, .int 0, .int 0, .int 0, .int (-1), .ref a3, .ref a4, .int 0, .int 0, .int 0, .ref a5, .ref a6, .int 0, .int (-1), .int 0, .int 0, .ref a7, .ref a8, .ref a9, .ref a10, .int 0, .int 0, .ref a11, .ref a12, .int 0, .int 0, .ref a13, .ref a14, .ref a15, .int 0, .int 0, .ref a16, .ref a17, .ref a18])), (a1, .inl (cy 0, 400, .inl (upd f_20 (15 : Int32).toNatClampNeg (vp_nar .byte ((((f_5 (3 : Int32).toNatClampNeg) >>> (0 &&& 31))).toInt8.toInt32))))), (a2, .inl (cy 1, 5, .inl f_5))] H := hP
  have hD : va_D A [(h0, .inr (11, [.int 0, .ref a1, .int 0, .ref a2, .int 0, .int 0, .int 0, .int 0, .int (-1), .ref a3, .ref a4, .int 0, .int 0, .int 0, .ref a5, .ref a6, .int 0, .int (-1), .int 0, .int 0, .ref a7, .ref a8, .ref a9, .ref a10, .int 0, .int 0, .ref a11, .ref a12, .int 0, .int 0, .ref a13, .ref a14, .ref a15, .int 0, .int 0, .ref a16, .ref a17, .ref a18])), (a1, .inl (cy 0, 400, .inl (upd f_20 (15 : Int32).toNatClampNeg (vp_nar .byte ((((f_5 (3 : Int32).toNatClampNeg) >>> (0 &&& 31))).toInt8.toInt32))))), (a2, .inl (cy 1, 5, .inl f_5))] := hD
  generalize ef_21 : (upd f_20 (15 : Int32).toNatClampNeg (vp_nar .byte ((((f_5 (3 : Int32).toNatClampNeg) >>> (0 &&& 31))).toInt8.toInt32))) = f_21 at hP hD
  refine lv_iinc (v := 16) (lv' := [(6, .int 16), (0, .ref h0), (1, .int p0), (2, .int p1), (3, .int p2), (4, .int p3), (5, .int p4)]) hx hb dX12_feed_100 hl (k := 0) rfl (by decide) (by decide) rfl (fun ls hl => ?_)
  refine lv_goto (tgt := 60) hx hb dX12_feed_103 (by decide) ?_
  refine lv_iload hx hb dX12_feed_60 (lv_at hl 0 rfl) ?_
  refine lv_bipush (v := 20) hx hb dX12_feed_62 (by decide) ?_
  refine lv_icmp_ge (tgt := 106) hx hb dX12_feed_64 (by decide) (fun c9 => absurd c9 (by decide)) (fun _ => ?_)
  refine lv_aload_n hx hb dX12_feed_67 rfl (lv_at hl 1 rfl) ?_
  refine va_get (D := G) (ci := 11) (v := .ref a1) (C := RX12) (T := TX12) (N := 38) hx hb hU in_X12 hown hK.1 hP 0 rfl rfl 1 (by decide) (hU _ u_1506) (fun _ h9 => h9) rfl dX12_feed_68 ?_
  refine lv_aload_n hx hb dX12_feed_71 rfl (lv_at hl 1 rfl) ?_
  refine va_get (D := G) (ci := 11) (v := .int 0) (C := RX12) (T := TX12) (N := 38) hx hb hU in_X12 hown hK.1 hP 0 rfl rfl 2 (by decide) (hU _ u_1507) (fun _ h9 => h9) rfl dX12_feed_72 ?_
  refine lv_iload hx hb dX12_feed_75 (lv_at hl 0 rfl) ?_
  refine lv_iadd hx hb dX12_feed_77 (lx_top (y := 16) (by decide +kernel) ?_)
  refine lv_aload_n hx hb dX12_feed_78 rfl (lv_at hl 1 rfl) ?_
  refine va_get (D := G) (ci := 11) (v := .ref a2) (C := RX12) (T := TX12) (N := 38) hx hb hU in_X12 hown hK.1 hP 0 rfl rfl 3 (by decide) (hU _ u_1508) (fun _ h9 => h9) rfl dX12_feed_79 ?_
  refine lv_iload hx hb dX12_feed_82 (lv_at hl 0 rfl) ?_
  refine lv_iconst (v := 4) hx hb dX12_feed_84 (by decide) ?_
  refine lv_idiv hx hb dX12_feed_85 (by decide) (lx_top (y := 4) (by decide +kernel) ?_)
  refine va_iald hx hb hK.1 hP 2 1 rfl rfl (lx_in (by decide +kernel)) dX12_feed_86 ?_
  refine lv_bipush (v := 24) hx hb dX12_feed_87 (by decide) ?_
  refine lv_bipush (v := 8) hx hb dX12_feed_89 (by decide) ?_
  refine lv_iload hx hb dX12_feed_91 (lv_at hl 0 rfl) ?_
  refine lv_iconst (v := 4) hx hb dX12_feed_93 (by decide) ?_
  refine lv_irem hx hb dX12_feed_94 (by decide) (lx_top (y := 0) (by decide +kernel) ?_)
  refine lv_imul hx hb dX12_feed_95 (lx_top (y := 0) (by decide +kernel) ?_)
  refine lv_isub hx hb dX12_feed_96 (lx_top (y := 24) (by decide +kernel) ?_)
  refine lv_ishr hx hb dX12_feed_97 ?_
  refine lv_i2b hx hb dX12_feed_98 rfl ?_
  refine va_bast hx hb hK.1 hP hD hS 1 0 rfl rfl (lx_in (by decide +kernel)) dX12_feed_99 (fun H locs hP hD hS => ?_)
  have hP : va_P G vwCl [(h0, .inr (11, [.int 0, .ref a1, .int 0, .ref a2, .int 0, .int 0, .int 0, .int 0, .int (-1), .ref a3, .ref a4, .int 0, .int 0, .int 0, .ref a5, .ref a6, .int 0, .int (-1), .int 0, .int 0, .ref a7, .ref a8, .ref a9, .ref a10, .int 0, .int 0, .ref a11, .ref a12, .int 0, .int 0, .ref a13, .ref a14, .ref a15, .int 0, .int 0, .ref a16, .ref a17, .ref a18])), (a1, .inl (cy 0, 400, .inl (upd f_21 (16 : Int32).toNatClampNeg (vp_nar .byte ((((f_5 (4 : Int32).toNatClampNeg) >>> (24 &&& 31))).toInt8.toInt32))))), (a2, .inl (cy 1, 5, .inl f_5))] H := hP
  have hD : va_D A [(h0, .inr (11, [.int 0, .ref a1, .int 0, .ref a2, .int 0, .int 0, .int 0, .int 0, .int (-1), .ref a3, .ref a4, .int 0, .int 0, .int 0, .ref a5, .ref a6, .int 0, .int (-1), .int 0, .int 0, .ref a7, .ref a8, .ref a9, .ref a10, .int 0, .int 0, .ref a11, .ref a12, .int 0, .int 0, .ref a13, .ref a14, .ref a15, .int 0, .int 0, .ref a16, .ref a17, .ref a18])), (a1, .inl (cy 0, 400, .inl (upd f_21 (16 : Int32).toNatClampNeg (vp_nar .byte ((((f_5 (4 : Int32).toNatClampNeg) >>> (24 &&& 31))).toInt8.toInt32))))), (a2, .inl (cy 1, 5, .inl f_5))] := hD
  generalize ef_22 : (upd f_21 (16 : Int32).toNatClampNeg (vp_nar .byte ((((f_5 (4 : Int32).toNatClampNeg) >>> (24 &&& 31))).toInt8.toInt32))) = f_22 at hP hD
  refine lv_iinc (v := 17) (lv' := [(6, .int 17), (0, .ref h0), (1, .int p0), (2, .int p1), (3, .int p2), (4, .int p3), (5, .int p4)]) hx hb dX12_feed_100 hl (k := 0) rfl (by decide) (by decide) rfl (fun ls hl => ?_)
  refine lv_goto (tgt := 60) hx hb dX12_feed_103 (by decide) ?_
  refine lv_iload hx hb dX12_feed_60 (lv_at hl 0 rfl) ?_
  refine lv_bipush (v := 20) hx hb dX12_feed_62 (by decide) ?_
  refine lv_icmp_ge (tgt := 106) hx hb dX12_feed_64 (by decide) (fun c9 => absurd c9 (by decide)) (fun _ => ?_)
  refine lv_aload_n hx hb dX12_feed_67 rfl (lv_at hl 1 rfl) ?_
  refine va_get (D := G) (ci := 11) (v := .ref a1) (C := RX12) (T := TX12) (N := 38) hx hb hU in_X12 hown hK.1 hP 0 rfl rfl 1 (by decide) (hU _ u_1506) (fun _ h9 => h9) rfl dX12_feed_68 ?_
  refine lv_aload_n hx hb dX12_feed_71 rfl (lv_at hl 1 rfl) ?_
  refine va_get (D := G) (ci := 11) (v := .int 0) (C := RX12) (T := TX12) (N := 38) hx hb hU in_X12 hown hK.1 hP 0 rfl rfl 2 (by decide) (hU _ u_1507) (fun _ h9 => h9) rfl dX12_feed_72 ?_
  refine lv_iload hx hb dX12_feed_75 (lv_at hl 0 rfl) ?_
  refine lv_iadd hx hb dX12_feed_77 (lx_top (y := 17) (by decide +kernel) ?_)
  refine lv_aload_n hx hb dX12_feed_78 rfl (lv_at hl 1 rfl) ?_
  refine va_get (D := G) (ci := 11) (v := .ref a2) (C := RX12) (T := TX12) (N := 38) hx hb hU in_X12 hown hK.1 hP 0 rfl rfl 3 (by decide) (hU _ u_1508) (fun _ h9 => h9) rfl dX12_feed_79 ?_
  refine lv_iload hx hb dX12_feed_82 (lv_at hl 0 rfl) ?_
  refine lv_iconst (v := 4) hx hb dX12_feed_84 (by decide) ?_
  refine lv_idiv hx hb dX12_feed_85 (by decide) (lx_top (y := 4) (by decide +kernel) ?_)
  refine va_iald hx hb hK.1 hP 2 1 rfl rfl (lx_in (by decide +kernel)) dX12_feed_86 ?_
  refine lv_bipush (v := 24) hx hb dX12_feed_87 (by decide) ?_
  refine lv_bipush (v := 8) hx hb dX12_feed_89 (by decide) ?_
  refine lv_iload hx hb dX12_feed_91 (lv_at hl 0 rfl) ?_
  refine lv_iconst (v := 4) hx hb dX12_feed_93 (by decide) ?_
  refine lv_irem hx hb dX12_feed_94 (by decide) (lx_top (y := 1) (by decide +kernel) ?_)
  refine lv_imul hx hb dX12_feed_95 (lx_top (y := 8) (by decide +kernel) ?_)
  refine lv_isub hx hb dX12_feed_96 (lx_top (y := 16) (by decide +kernel) ?_)
  refine lv_ishr hx hb dX12_feed_97 ?_
  refine lv_i2b hx hb dX12_feed_98 rfl ?_
  refine va_bast hx hb hK.1 hP hD hS 1 0 rfl rfl (lx_in (by decide +kernel)) dX12_feed_99 (fun H locs hP hD hS => ?_)
  have hP : va_P G vwCl [(h0, .inr (11, [.int 0, .ref a1, .int 0, .ref a2, .int 0, .int 0, .int 0, .int 0, .int (-1), .ref a3, .ref a4, .int 0, .int 0, .int 0, .ref a5, .ref a6, .int 0, .int (-1), .int 0, .int 0, .ref a7, .ref a8, .ref a9, .ref a10, .int 0, .int 0, .ref a11, .ref a12, .int 0, .int 0, .ref a13, .ref a14, .ref a15, .int 0, .int 0, .ref a16, .ref a17, .ref a18])), (a1, .inl (cy 0, 400, .inl (upd f_22 (17 : Int32).toNatClampNeg (vp_nar .byte ((((f_5 (4 : Int32).toNatClampNeg) >>> (16 &&& 31))).toInt8.toInt32))))), (a2, .inl (cy 1, 5, .inl f_5))] H := hP
  have hD : va_D A [(h0, .inr (11, [.int 0, .ref a1, .int 0, .ref a2, .int 0, .int 0, .int 0, .int 0, .int (-1), .ref a3, .ref a4, .int 0, .int 0, .int 0, .ref a5, .ref a6, .int 0, .int (-1), .int 0, .int 0, .ref a7, .ref a8, .ref a9, .ref a10, .int 0, .int 0, .ref a11, .ref a12, .int 0, .int 0, .ref a13, .ref a14, .ref a15, .int 0, .int 0, .ref a16, .ref a17, .ref a18])), (a1, .inl (cy 0, 400, .inl (upd f_22 (17 : Int32).toNatClampNeg (vp_nar .byte ((((f_5 (4 : Int32).toNatClampNeg) >>> (16 &&& 31))).toInt8.toInt32))))), (a2, .inl (cy 1, 5, .inl f_5))] := hD
  generalize ef_23 : (upd f_22 (17 : Int32).toNatClampNeg (vp_nar .byte ((((f_5 (4 : Int32).toNatClampNeg) >>> (16 &&& 31))).toInt8.toInt32))) = f_23 at hP hD
  refine lv_iinc (v := 18) (lv' := [(6, .int 18), (0, .ref h0), (1, .int p0), (2, .int p1), (3, .int p2), (4, .int p3), (5, .int p4)]) hx hb dX12_feed_100 hl (k := 0) rfl (by decide) (by decide) rfl (fun ls hl => ?_)
  refine lv_goto (tgt := 60) hx hb dX12_feed_103 (by decide) ?_
  refine lv_iload hx hb dX12_feed_60 (lv_at hl 0 rfl) ?_
  refine lv_bipush (v := 20) hx hb dX12_feed_62 (by decide) ?_
  refine lv_icmp_ge (tgt := 106) hx hb dX12_feed_64 (by decide) (fun c9 => absurd c9 (by decide)) (fun _ => ?_)
  refine lv_aload_n hx hb dX12_feed_67 rfl (lv_at hl 1 rfl) ?_
  refine va_get (D := G) (ci := 11) (v := .ref a1) (C := RX12) (T := TX12) (N := 38) hx hb hU in_X12 hown hK.1 hP 0 rfl rfl 1 (by decide) (hU _ u_1506) (fun _ h9 => h9) rfl dX12_feed_68 ?_
  refine lv_aload_n hx hb dX12_feed_71 rfl (lv_at hl 1 rfl) ?_
  refine va_get (D := G) (ci := 11) (v := .int 0) (C := RX12) (T := TX12) (N := 38) hx hb hU in_X12 hown hK.1 hP 0 rfl rfl 2 (by decide) (hU _ u_1507) (fun _ h9 => h9) rfl dX12_feed_72 ?_
  refine lv_iload hx hb dX12_feed_75 (lv_at hl 0 rfl) ?_
  refine lv_iadd hx hb dX12_feed_77 (lx_top (y := 18) (by decide +kernel) ?_)
  refine lv_aload_n hx hb dX12_feed_78 rfl (lv_at hl 1 rfl) ?_
  refine va_get (D := G) (ci := 11) (v := .ref a2) (C := RX12) (T := TX12) (N := 38) hx hb hU in_X12 hown hK.1 hP 0 rfl rfl 3 (by decide) (hU _ u_1508) (fun _ h9 => h9) rfl dX12_feed_79 ?_
  refine lv_iload hx hb dX12_feed_82 (lv_at hl 0 rfl) ?_
  refine lv_iconst (v := 4) hx hb dX12_feed_84 (by decide) ?_
  refine lv_idiv hx hb dX12_feed_85 (by decide) (lx_top (y := 4) (by decide +kernel) ?_)
  refine va_iald hx hb hK.1 hP 2 1 rfl rfl (lx_in (by decide +kernel)) dX12_feed_86 ?_
  refine lv_bipush (v := 24) hx hb dX12_feed_87 (by decide) ?_
  refine lv_bipush (v := 8) hx hb dX12_feed_89 (by decide) ?_
  refine lv_iload hx hb dX12_feed_91 (lv_at hl 0 rfl) ?_
  refine lv_iconst (v := 4) hx hb dX12_feed_93 (by decide) ?_
  refine lv_irem hx hb dX12_feed_94 (by decide) (lx_top (y := 2) (by decide +kernel) ?_)
  refine lv_imul hx hb dX12_feed_95 (lx_top (y := 16) (by decide +kernel) ?_)
  refine lv_isub hx hb dX12_feed_96 (lx_top (y := 8) (by decide +kernel) ?_)
  refine lv_ishr hx hb dX12_feed_97 ?_
  refine lv_i2b hx hb dX12_feed_98 rfl ?_
  refine va_bast hx hb hK.1 hP hD hS 1 0 rfl rfl (lx_in (by decide +kernel)) dX12_feed_99 (fun H locs hP hD hS => ?_)
  have hP : va_P G vwCl [(h0, .inr (11, [.int 0, .ref a1, .int 0, .ref a2, .int 0, .int 0, .int 0, .int 0, .int (-1), .ref a3, .ref a4, .int 0, .int 0, .int 0, .ref a5, .ref a6, .int 0, .int (-1), .int 0, .int 0, .ref a7, .ref a8, .ref a9, .ref a10, .int 0, .int 0, .ref a11, .ref a12, .int 0, .int 0, .ref a13, .ref a14, .ref a15, .int 0, .int 0, .ref a16, .ref a17, .ref a18])), (a1, .inl (cy 0, 400, .inl (upd f_23 (18 : Int32).toNatClampNeg (vp_nar .byte ((((f_5 (4 : Int32).toNatClampNeg) >>> (8 &&& 31))).toInt8.toInt32))))), (a2, .inl (cy 1, 5, .inl f_5))] H := hP
  have hD : va_D A [(h0, .inr (11, [.int 0, .ref a1, .int 0, .ref a2, .int 0, .int 0, .int 0, .int 0, .int (-1), .ref a3, .ref a4, .int 0, .int 0, .int 0, .ref a5, .ref a6, .int 0, .int (-1), .int 0, .int 0, .ref a7, .ref a8, .ref a9, .ref a10, .int 0, .int 0, .ref a11, .ref a12, .int 0, .int 0, .ref a13, .ref a14, .ref a15, .int 0, .int 0, .ref a16, .ref a17, .ref a18])), (a1, .inl (cy 0, 400, .inl (upd f_23 (18 : Int32).toNatClampNeg (vp_nar .byte ((((f_5 (4 : Int32).toNatClampNeg) >>> (8 &&& 31))).toInt8.toInt32))))), (a2, .inl (cy 1, 5, .inl f_5))] := hD
  generalize ef_24 : (upd f_23 (18 : Int32).toNatClampNeg (vp_nar .byte ((((f_5 (4 : Int32).toNatClampNeg) >>> (8 &&& 31))).toInt8.toInt32))) = f_24 at hP hD
  refine lv_iinc (v := 19) (lv' := [(6, .int 19), (0, .ref h0), (1, .int p0), (2, .int p1), (3, .int p2), (4, .int p3), (5, .int p4)]) hx hb dX12_feed_100 hl (k := 0) rfl (by decide) (by decide) rfl (fun ls hl => ?_)
  refine lv_goto (tgt := 60) hx hb dX12_feed_103 (by decide) ?_
  refine lv_iload hx hb dX12_feed_60 (lv_at hl 0 rfl) ?_
  refine lv_bipush (v := 20) hx hb dX12_feed_62 (by decide) ?_
  refine lv_icmp_ge (tgt := 106) hx hb dX12_feed_64 (by decide) (fun c9 => absurd c9 (by decide)) (fun _ => ?_)
  refine lv_aload_n hx hb dX12_feed_67 rfl (lv_at hl 1 rfl) ?_
  refine va_get (D := G) (ci := 11) (v := .ref a1) (C := RX12) (T := TX12) (N := 38) hx hb hU in_X12 hown hK.1 hP 0 rfl rfl 1 (by decide) (hU _ u_1506) (fun _ h9 => h9) rfl dX12_feed_68 ?_
  refine lv_aload_n hx hb dX12_feed_71 rfl (lv_at hl 1 rfl) ?_
  refine va_get (D := G) (ci := 11) (v := .int 0) (C := RX12) (T := TX12) (N := 38) hx hb hU in_X12 hown hK.1 hP 0 rfl rfl 2 (by decide) (hU _ u_1507) (fun _ h9 => h9) rfl dX12_feed_72 ?_
  refine lv_iload hx hb dX12_feed_75 (lv_at hl 0 rfl) ?_
  refine lv_iadd hx hb dX12_feed_77 (lx_top (y := 19) (by decide +kernel) ?_)
  refine lv_aload_n hx hb dX12_feed_78 rfl (lv_at hl 1 rfl) ?_
  refine va_get (D := G) (ci := 11) (v := .ref a2) (C := RX12) (T := TX12) (N := 38) hx hb hU in_X12 hown hK.1 hP 0 rfl rfl 3 (by decide) (hU _ u_1508) (fun _ h9 => h9) rfl dX12_feed_79 ?_
  refine lv_iload hx hb dX12_feed_82 (lv_at hl 0 rfl) ?_
  refine lv_iconst (v := 4) hx hb dX12_feed_84 (by decide) ?_
  refine lv_idiv hx hb dX12_feed_85 (by decide) (lx_top (y := 4) (by decide +kernel) ?_)
  refine va_iald hx hb hK.1 hP 2 1 rfl rfl (lx_in (by decide +kernel)) dX12_feed_86 ?_
  refine lv_bipush (v := 24) hx hb dX12_feed_87 (by decide) ?_
  refine lv_bipush (v := 8) hx hb dX12_feed_89 (by decide) ?_
  refine lv_iload hx hb dX12_feed_91 (lv_at hl 0 rfl) ?_
  refine lv_iconst (v := 4) hx hb dX12_feed_93 (by decide) ?_
  refine lv_irem hx hb dX12_feed_94 (by decide) (lx_top (y := 3) (by decide +kernel) ?_)
  refine lv_imul hx hb dX12_feed_95 (lx_top (y := 24) (by decide +kernel) ?_)
  refine lv_isub hx hb dX12_feed_96 (lx_top (y := 0) (by decide +kernel) ?_)
  refine lv_ishr hx hb dX12_feed_97 ?_
  refine lv_i2b hx hb dX12_feed_98 rfl ?_
  refine va_bast hx hb hK.1 hP hD hS 1 0 rfl rfl (lx_in (by decide +kernel)) dX12_feed_99 (fun H locs hP hD hS => ?_)
  have hP : va_P G vwCl [(h0, .inr (11, [.int 0, .ref a1, .int 0, .ref a2, .int 0, .int 0, .int 0, .int 0, .int (-1), .ref a3, .ref a4, .int 0, .int 0, .int 0, .ref a5, .ref a6, .int 0, .int (-1), .int 0, .int 0, .ref a7, .ref a8, .ref a9, .ref a10, .int 0, .int 0, .ref a11, .ref a12, .int 0, .int 0, .ref a13, .ref a14, .ref a15, .int 0, .int 0, .ref a16, .ref a17, .ref a18])), (a1, .inl (cy 0, 400, .inl (upd f_24 (19 : Int32).toNatClampNeg (vp_nar .byte ((((f_5 (4 : Int32).toNatClampNeg) >>> (0 &&& 31))).toInt8.toInt32))))), (a2, .inl (cy 1, 5, .inl f_5))] H := hP
  have hD : va_D A [(h0, .inr (11, [.int 0, .ref a1, .int 0, .ref a2, .int 0, .int 0, .int 0, .int 0, .int (-1), .ref a3, .ref a4, .int 0, .int 0, .int 0, .ref a5, .ref a6, .int 0, .int (-1), .int 0, .int 0, .ref a7, .ref a8, .ref a9, .ref a10, .int 0, .int 0, .ref a11, .ref a12, .int 0, .int 0, .ref a13, .ref a14, .ref a15, .int 0, .int 0, .ref a16, .ref a17, .ref a18])), (a1, .inl (cy 0, 400, .inl (upd f_24 (19 : Int32).toNatClampNeg (vp_nar .byte ((((f_5 (4 : Int32).toNatClampNeg) >>> (0 &&& 31))).toInt8.toInt32))))), (a2, .inl (cy 1, 5, .inl f_5))] := hD
  generalize ef_25 : (upd f_24 (19 : Int32).toNatClampNeg (vp_nar .byte ((((f_5 (4 : Int32).toNatClampNeg) >>> (0 &&& 31))).toInt8.toInt32))) = f_25 at hP hD
  refine lv_iinc (v := 20) (lv' := [(6, .int 20), (0, .ref h0), (1, .int p0), (2, .int p1), (3, .int p2), (4, .int p3), (5, .int p4)]) hx hb dX12_feed_100 hl (k := 0) rfl (by decide) (by decide) rfl (fun ls hl => ?_)
  refine lv_goto (tgt := 60) hx hb dX12_feed_103 (by decide) ?_
  refine lv_iload hx hb dX12_feed_60 (lv_at hl 0 rfl) ?_
  refine lv_bipush (v := 20) hx hb dX12_feed_62 (by decide) ?_
  refine lv_icmp_ge (tgt := 106) hx hb dX12_feed_64 (by decide) (fun _ => ?_) (fun c9 => absurd (by decide) c9)
  refine lv_aload_n hx hb dX12_feed_106 rfl (lv_at hl 1 rfl) ?_
  refine lv_dup hx hb dX12_feed_107 rfl ?_
  refine va_get (D := G) (ci := 11) (v := .int 0) (C := RX12) (T := TX12) (N := 38) hx hb hU in_X12 hown hK.1 hP 0 rfl rfl 2 (by decide) (hU _ u_1507) (fun _ h9 => h9) rfl dX12_feed_108 ?_
  refine lv_bipush (v := 20) hx hb dX12_feed_111 (by decide) ?_
  refine lv_iadd hx hb dX12_feed_113 (lx_top (y := 20) (by decide +kernel) ?_)
  refine va_put (D := G) (ci := 11) (v := .int 20) (ty := .int) (C := RX12) (T := TX12) (N := 38) hx hb hU in_X12 tyX12 tyX12_ok nmX12 hown hK.1 hP hD hS 0 rfl rfl 2 (by decide) (hU _ u_1507) (fun _ h9 => h9) rfl (by decide +kernel) rfl rfl (Nat.le_of_ble_eq_true rfl) dX12_feed_114 (fun H locs hP hD hS => ?_)
  have hP : va_P G vwCl [(h0, .inr (11, [.int 0, .ref a1, .int 20, .ref a2, .int 0, .int 0, .int 0, .int 0, .int (-1), .ref a3, .ref a4, .int 0, .int 0, .int 0, .ref a5, .ref a6, .int 0, .int (-1), .int 0, .int 0, .ref a7, .ref a8, .ref a9, .ref a10, .int 0, .int 0, .ref a11, .ref a12, .int 0, .int 0, .ref a13, .ref a14, .ref a15, .int 0, .int 0, .ref a16, .ref a17, .ref a18])), (a1, .inl (cy 0, 400, .inl f_25)), (a2, .inl (cy 1, 5, .inl f_5))] H := hP
  have hD : va_D A [(h0, .inr (11, [.int 0, .ref a1, .int 20, .ref a2, .int 0, .int 0, .int 0, .int 0, .int (-1), .ref a3, .ref a4, .int 0, .int 0, .int 0, .ref a5, .ref a6, .int 0, .int (-1), .int 0, .int 0, .ref a7, .ref a8, .ref a9, .ref a10, .int 0, .int 0, .ref a11, .ref a12, .int 0, .int 0, .ref a13, .ref a14, .ref a15, .int 0, .int 0, .ref a16, .ref a17, .ref a18])), (a1, .inl (cy 0, 400, .inl f_25)), (a2, .inl (cy 1, 5, .inl f_5))] := hD
  refine lv_aload_n hx hb dX12_feed_117 rfl (lv_at hl 1 rfl) ?_
  refine va_get (D := G) (ci := 11) (v := .int 20) (C := RX12) (T := TX12) (N := 38) hx hb hU in_X12 hown hK.1 hP 0 rfl rfl 2 (by decide) (hU _ u_1507) (fun _ h9 => h9) rfl dX12_feed_118 ?_
  exact kt_iret hx hb hr hlocks hP hD hS dX12_feed_121 [] rfl rfl rfl rfl ⟨rfl, rfl⟩
