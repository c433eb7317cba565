set_option maxHeartbeats 4000000 in
set_option maxRecDepth 100000 in
theorem c_X11_forgetAnswers (l : Launch) (G : va_G) (cy : Nat → ClassId) (h0 : Nat) (r1 : Nat) (r2 : Nat) (r4 : Nat) (r6 : Nat) (r7 : Nat) (r9 : Nat) : Kt l G cy yX11_forgetAnswers cX11_forgetAnswers 2 none ({ frames := 10, cells := 0, slots := 0, locals := 200 } : Room) [.ref h0] [(h0, .inr (10, [.ref r1, .int 0, .int (-1), .ref r2, .ref r4, .ref r6, .int (-2), .ref r7, .ref r9])), (r6, .inl (cy 5, 7, .inr (.inr (.inr (.inr (fun _ => none))))))] (fun (v : Option Value) (w1 : va_W) => v = none ∧ w1 = [(h0, .inr (10, [.ref r1, .int 0, .int (-1), .ref r2, .ref r4, .ref r6, .int (-2), .ref r7, .ref r9])), (r6, .inl (cy 5, 7, .inr (.inr (.inr (.inr (fun _ => none))))))]) := by
  refine kt_ofW (by decide) (Nat.le_of_ble_eq_true rfl) ?_
  intro p e s m below meth c A ls hx hb hr hU hown hlocks hml hin hP hK hD hA hS hl
  have hown : s.vm.findClass RX11 = some m.cls := hown
  have hl : lv_has ls 2 [(0, .ref h0)] := hl
  refine lv_aload_n hx hb dX11_forgetAnswers_0 rfl (lv_at hl 0 rfl) ?_
  refine lv_bipush (v := (-2)) hx hb dX11_forgetAnswers_1 (by decide) ?_
  refine va_put (D := G) (ci := 10) (v := .int (-2)) (ty := .int) (C := RX11) (T := TX11) (N := 9) hx hb hU in_X11 tyX11 tyX11_ok nmX11 hown hK.1 hP hD hS 0 rfl rfl 6 (by decide) (hU _ u_256) (fun _ h9 => h9) rfl (by decide +kernel) rfl rfl (Nat.le_of_ble_eq_true rfl) dX11_forgetAnswers_3 (fun H locs hP hD hS => ?_)
  have hP : va_P G vwCl [(h0, .inr (10, [.ref r1, .int 0, .int (-1), .ref r2, .ref r4, .ref r6, .int (-2), .ref r7, .ref r9])), (r6, .inl (cy 5, 7, .inr (.inr (.inr (.inr (fun _ => none))))))] H := hP
  have hD : va_D A [(h0, .inr (10, [.ref r1, .int 0, .int (-1), .ref r2, .ref r4, .ref r6, .int (-2), .ref r7, .ref r9])), (r6, .inl (cy 5, 7, .inr (.inr (.inr (.inr (fun _ => none))))))] := hD
  refine lv_iconst (v := 0) hx hb dX11_forgetAnswers_6 (by decide) ?_
  refine lv_istore_n (lv' := [(1, .int 0), (0, .ref h0)]) hx hb dX11_forgetAnswers_7 rfl hl (by decide) rfl (fun ls hl => ?_)
  refine lv_iload_n hx hb dX11_forgetAnswers_8 rfl (lv_at hl 0 rfl) ?_
  refine lv_bipush (v := 6) hx hb dX11_forgetAnswers_9 (by decide) ?_
  refine lv_icmp_gt (tgt := 39) hx hb dX11_forgetAnswers_11 (by decide) (fun c9 => absurd c9 (by decide)) (fun _ => ?_)
  refine lv_aload_n hx hb dX11_forgetAnswers_14 rfl (lv_at hl 1 rfl) ?_
  refine va_get (D := G) (ci := 10) (v := .ref r6) (C := RX11) (T := TX11) (N := 9) hx hb hU in_X11 hown hK.1 hP 0 rfl rfl 5 (by decide) (hU _ u_255) (fun _ h9 => h9) rfl dX11_forgetAnswers_15 ?_
  refine lv_iload_n hx hb dX11_forgetAnswers_18 rfl (lv_at hl 0 rfl) ?_
  refine va_aldq hx hb hK.1 hP 1 5 rfl rfl (lx_in (by decide +kernel)) dX11_forgetAnswers_19 ?_
  refine W.eq (g2 := F0 m 20 ls [.null]) rfl ?_
  refine lv_ifnullN (tgt := 33) hx hb dX11_forgetAnswers_20 (by decide) ?_
  refine lv_iinc (v := 1) (lv' := [(1, .int 1), (0, .ref h0)]) hx hb dX11_forgetAnswers_33 hl (k := 0) rfl (by decide) (by decide) rfl (fun ls hl => ?_)
  refine lv_goto (tgt := 8) hx hb dX11_forgetAnswers_36 (by decide) ?_
  refine lv_iload_n hx hb dX11_forgetAnswers_8 rfl (lv_at hl 0 rfl) ?_
  refine lv_bipush (v := 6) hx hb dX11_forgetAnswers_9 (by decide) ?_
  refine lv_icmp_gt (tgt := 39) hx hb dX11_forgetAnswers_11 (by decide) (fun c9 => absurd c9 (by decide)) (fun _ => ?_)
  refine lv_aload_n hx hb dX11_forgetAnswers_14 rfl (lv_at hl 1 rfl) ?_
  refine va_get (D := G) (ci := 10) (v := .ref r6) (C := RX11) (T := TX11) (N := 9) hx hb hU in_X11 hown hK.1 hP 0 rfl rfl 5 (by decide) (hU _ u_255) (fun _ h9 => h9) rfl dX11_forgetAnswers_15 ?_
  refine lv_iload_n hx hb dX11_forgetAnswers_18 rfl (lv_at hl 0 rfl) ?_
  refine va_aldq hx hb hK.1 hP 1 5 rfl rfl (lx_in (by decide +kernel)) dX11_forgetAnswers_19 ?_
  refine W.eq (g2 := F0 m 20 ls [.null]) rfl ?_
  refine lv_ifnullN (tgt := 33) hx hb dX11_forgetAnswers_20 (by decide) ?_
  refine lv_iinc (v := 2) (lv' := [(1, .int 2), (0, .ref h0)]) hx hb dX11_forgetAnswers_33 hl (k := 0) rfl (by decide) (by decide) rfl (fun ls hl => ?_)
  refine lv_goto (tgt := 8) hx hb dX11_forgetAnswers_36 (by decide) ?_
  refine lv_iload_n hx hb dX11_forgetAnswers_8 rfl (lv_at hl 0 rfl) ?_
  refine lv_bipush (v := 6) hx hb dX11_forgetAnswers_9 (by decide) ?_
  refine lv_icmp_gt (tgt := 39) hx hb dX11_forgetAnswers_11 (by decide) (fun c9 => absurd c9 (by decide)) (fun _ => ?_)
  refine lv_aload_n hx hb dX11_forgetAnswers_14 rfl (lv_at hl 1 rfl) ?_
  refine va_get (D := G) (ci := 10) (v := .ref r6) (C := RX11) (T := TX11) (N := 9) hx hb hU in_X11 hown hK.1 hP 0 rfl rfl 5 (by decide) (hU _ u_255) (fun _ h9 => h9) rfl dX11_forgetAnswers_15 ?_
  refine lv_iload_n hx hb dX11_forgetAnswers_18 rfl (lv_at hl 0 rfl) ?_
  refine va_aldq hx hb hK.1 hP 1 5 rfl rfl (lx_in (by decide +kernel)) dX11_forgetAnswers_19 ?_
  refine W.eq (g2 := F0 m 20 ls [.null]) rfl ?_
  refine lv_ifnullN (tgt := 33) hx hb dX11_forgetAnswers_20 (by decide) ?_
  refine lv_iinc (v := 3) (lv' := [(1, .int 3), (0, .ref h0)]) hx hb dX11_forgetAnswers_33 hl (k := 0) rfl (by decide) (by decide) rfl (fun ls hl => ?_)
  refine lv_goto (tgt := 8) hx hb dX11_forgetAnswers_36 (by decide) ?_
  refine lv_iload_n hx hb dX11_forgetAnswers_8 rfl (lv_at hl 0 rfl) ?_
  refine lv_bipush (v := 6) hx hb dX11_forgetAnswers_9 (by decide) ?_
  refine lv_icmp_gt (tgt := 39) hx hb dX11_forgetAnswers_11 (by decide) (fun c9 => absurd c9 (by decide)) (fun _ => ?_)
  refine lv_aload_n hx hb dX11_forgetAnswers_14 rfl (lv_at hl 1 rfl) ?_
  refine va_get (D := G) (ci := 10) (v := .ref r6) (C := RX11) (T := TX11) (N := 9) hx hb hU in_X11 hown hK.1 hP 0 rfl rfl 5 (by decide) (hU _ u_255) (fun _ h9 => h9) rfl dX11_forgetAnswers_15 ?_
  refine lv_iload_n hx hb dX11_forgetAnswers_18 rfl (lv_at hl 0 rfl) ?_
  refine va_aldq hx hb hK.1 hP 1 5 rfl rfl (lx_in (by decide +kernel)) dX11_forgetAnswers_19 ?_
  refine W.eq (g2 := F0 m 20 ls [.null]) rfl ?_
  refine lv_ifnullN (tgt := 33) hx hb dX11_forgetAnswers_20 (by decide) ?_
  refine lv_iinc (v := 4) (lv' := [(1, .int 4), (0, .ref h0)]) hx hb dX11_forgetAnswers_33 hl (k := 0) rfl (by decide) (by decide) rfl (fun ls hl => ?_)
  refine lv_goto (tgt := 8) hx hb dX11_forgetAnswers_36 (by decide) ?_
  refine lv_iload_n hx hb dX11_forgetAnswers_8 rfl (lv_at hl 0 rfl) ?_
  refine lv_bipush (v := 6) hx hb dX11_forgetAnswers_9 (by decide) ?_
  refine lv_icmp_gt (tgt := 39) hx hb dX11_forgetAnswers_11 (by decide) (fun c9 => absurd c9 (by decide)) (fun _ => ?_)
  refine lv_aload_n hx hb dX11_forgetAnswers_14 rfl (lv_at hl 1 rfl) ?_
  refine va_get (D := G) (ci := 10) (v := .ref r6) (C := RX11) (T := TX11) (N := 9) hx hb hU in_X11 hown hK.1 hP 0 rfl rfl 5 (by decide) (hU _ u_255) (fun _ h9 => h9) rfl dX11_forgetAnswers_15 ?_
  refine lv_iload_n hx hb dX11_forgetAnswers_18 rfl (lv_at hl 0 rfl) ?_
  refine va_aldq hx hb hK.1 hP 1 5 rfl rfl (lx_in (by decide +kernel)) dX11_forgetAnswers_19 ?_
  refine W.eq (g2 := F0 m 20 ls [.null]) rfl ?_
  refine lv_ifnullN (tgt := 33) hx hb dX11_forgetAnswers_20 (by decide) ?_
  refine lv_iinc (v := 5) (lv' := [(1, .int 5), (0, .ref h0)]) hx hb dX11_forgetAnswers_33 hl (k := 0) rfl (by decide) (by decide) rfl (fun ls hl => ?_)
  refine lv_goto (tgt := 8) hx hb dX11_forgetAnswers_36 (by decide) ?_
  refine lv_iload_n hx hb dX11_forgetAnswers_8 rfl (lv_at hl 0 rfl) ?_
  refine lv_bipush (v := 6) hx hb dX11_forgetAnswers_9 (by decide) ?_
  refine lv_icmp_gt (tgt := 39) hx hb dX11_forgetAnswers_11 (by decide) (fun c9 => absurd c9 (by decide)) (fun _ => ?_)
  refine lv_aload_n hx hb dX11_forgetAnswers_14 rfl (lv_at hl 1 rfl) ?_
  refine va_get (D := G) (ci := 10) (v := .ref r6) (C := RX11) (T := TX11) (N := 9) hx hb hU in_X11 hown hK.1 hP 0 rfl rfl 5 (by decide) (hU _ u_255) (fun _ h9 => h9) rfl dX11_forgetAnswers_15 ?_
  refine lv_iload_n hx hb dX11_forgetAnswers_18 rfl (lv_at hl 0 rfl) ?_
  refine va_aldq hx hb hK.1 hP 1 5 rfl rfl (lx_in (by decide +kernel)) dX11_forgetAnswers_19 ?_
  refine W.eq (g2 := F0 m 20 ls [.null]) rfl ?_
  refine lv_ifnullN (tgt := 33) hx hb dX11_forgetAnswers_20 (by decide) ?_
  refine lv_iinc (v := 6) (lv' := [(1, .int 6), (0, .ref h0)]) hx hb dX11_forgetAnswers_33 hl (k := 0) rfl (by decide) (by decide) rfl (fun ls hl => ?_)
  refine lv_goto (tgt := 8) hx hb dX11_forgetAnswers_36 (by decide) ?_
  refine lv_iload_n hx hb dX11_forgetAnswers_8 rfl (lv_at hl 0 rfl) ?_
  refine lv_bipush (v := 6) hx hb dX11_forgetAnswers_9 (by decide) ?_
  refine lv_icmp_gt (tgt := 39) hx hb dX11_forgetAnswers_11 (by decide) (fun c9 => absurd c9 (by decide)) (fun _ => ?_)
  refine lv_aload_n hx hb dX11_forgetAnswers_14 rfl (lv_at hl 1 rfl) ?_
  refine va_get (D := G) (ci := 10) (v := .ref r6) (C := RX11) (T := TX11) (N := 9) hx hb hU in_X11 hown hK.1 hP 0 rfl rfl 5 (by decide) (hU _ u_255) (fun _ h9 => h9) rfl dX11_forgetAnswers_15 ?_
  refine lv_iload_n hx hb dX11_forgetAnswers_18 rfl (lv_at hl 0 rfl) ?_
  refine va_aldq hx hb hK.1 hP 1 5 rfl rfl (lx_in (by decide +kernel)) dX11_forgetAnswers_19 ?_
  refine W.eq (g2 := F0 m 20 ls [.null]) rfl ?_
  refine lv_ifnullN (tgt := 33) hx hb dX11_forgetAnswers_20 (by decide) ?_
  refine lv_iinc (v := 7) (lv' := [(1, .int 7), (0, .ref h0)]) hx hb dX11_forgetAnswers_33 hl (k := 0) rfl (by decide) (by decide) rfl (fun ls hl => ?_)
  refine lv_goto (tgt := 8) hx hb dX11_forgetAnswers_36 (by decide) ?_
  refine lv_iload_n hx hb dX11_forgetAnswers_8 rfl (lv_at hl 0 rfl) ?_
  refine lv_bipush (v := 6) hx hb dX11_forgetAnswers_9 (by decide) ?_
  refine lv_icmp_gt (tgt := 39) hx hb dX11_forgetAnswers_11 (by decide) (fun _ => ?_) (fun c9 => absurd (by decide) c9)
  exact kt_vret hx hb hr hlocks hP hD hS dX11_forgetAnswers_39 [0, 1] rfl rfl rfl rfl ⟨rfl, rfl⟩
set_option maxHeartbeats 4000000 in
set_option maxRecDepth 100000 in
theorem c_X11_claim (l : Launch) (G : va_G) (cy : Nat → ClassId) (h0 : Nat) (r1 : Nat) (r2 : Nat) (r4 : Nat) (r6 : Nat) (r7 : Nat) (r9 : Nat) (r3 : Nat) : Kt l G cy yX11_claim cX11_claim 3 (some .int) ({ frames := 16, cells := 6, slots := 80, locals := 500 } : Room) [.ref h0] [(h0, .inr (10, [.ref r1, .int 0, .int (-1), .ref r2, .ref r4, .ref r6, .int (-2), .ref r7, .ref r9])), (r2, .inr (0, [.ref r3, .int 0, .int 0])), (r6, .inl (cy 5, 7, .inr (.inr (.inr (.inr (fun _ => none))))))] (fun (v : Option Value) (w1 : va_W) => v = some (.int 0) ∧ w1 = []) := by
  refine kt_ofW (by decide) (Nat.le_of_ble_eq_true rfl) ?_
  intro p e s m below meth c A ls hx hb hr hU hown hlocks hml hin hP hK hD hA hS hl
  have hown : s.vm.findClass RX11 = some m.cls := hown
  have hl : lv_has ls 3 [(0, .ref h0)] := hl
  refine va_new (ci := 1) (fs := [.null, .null, .int 0, .int 0, .null]) (C := RX1) (T := TX1) (N := 5) hx hb hU in_X1 tyX1 tyX1_ok hown (hU _ u_486) (hU _ u_487) (hU _ u_130) hK.1 hP hD hS hA rfl df_X1 (Nat.le_of_ble_eq_true rfl) (Nat.le_of_ble_eq_true rfl) dX11_claim_0 (fun q_1 H hP hD hS => ?_)
  have hP : va_P G vwCl [(h0, .inr (10, [.ref r1, .int 0, .int (-1), .ref r2, .ref r4, .ref r6, .int (-2), .ref r7, .ref r9])), (r2, .inr (0, [.ref r3, .int 0, .int 0])), (r6, .inl (cy 5, 7, .inr (.inr (.inr (.inr (fun _ => none)))))), (q_1, .inr (1, [.null, .null, .int 0, .int 0, .null]))] H := hP
  have hD : va_D A [(h0, .inr (10, [.ref r1, .int 0, .int (-1), .ref r2, .ref r4, .ref r6, .int (-2), .ref r7, .ref r9])), (r2, .inr (0, [.ref r3, .int 0, .int 0])), (r6, .inl (cy 5, 7, .inr (.inr (.inr (.inr (fun _ => none)))))), (q_1, .inr (1, [.null, .null, .int 0, .int 0, .null]))] := hD
  refine W.widen (k := 1) (n := 5) (Nat.le_of_ble_eq_true rfl) (Nat.le_of_ble_eq_true rfl) ?_
  refine lv_dup hx hb dX11_claim_3 rfl ?_
  refine va_new (ci := 8) (fs := [.null, .int 0, .int 0, .int 0, .int 0, .int 0]) (C := RX8) (T := TX8) (N := 6) hx hb hU in_X8 tyX8 tyX8_ok hown (hU _ u_488) (hU _ u_489) (hU _ u_131) hK.1 hP hD hS hA rfl df_X8 (Nat.le_of_ble_eq_true rfl) (Nat.le_of_ble_eq_true rfl) dX11_claim_4 (fun q_2 H hP hD hS => ?_)
  have hP : va_P G vwCl [(h0, .inr (10, [.ref r1, .int 0, .int (-1), .ref r2, .ref r4, .ref r6, .int (-2), .ref r7, .ref r9])), (r2, .inr (0, [.ref r3, .int 0, .int 0])), (r6, .inl (cy 5, 7, .inr (.inr (.inr (.inr (fun _ => none)))))), (q_1, .inr (1, [.null, .null, .int 0, .int 0, .null])), (q_2, .inr (8, [.null, .int 0, .int 0, .int 0, .int 0, .int 0]))] H := hP
  have hD : va_D A [(h0, .inr (10, [.ref r1, .int 0, .int (-1), .ref r2, .ref r4, .ref r6, .int (-2), .ref r7, .ref r9])), (r2, .inr (0, [.ref r3, .int 0, .int 0])), (r6, .inl (cy 5, 7, .inr (.inr (.inr (.inr (fun _ => none)))))), (q_1, .inr (1, [.null, .null, .int 0, .int 0, .null])), (q_2, .inr (8, [.null, .int 0, .int 0, .int 0, .int 0, .int 0]))] := hD
  refine W.widen (k := 2) (n := 11) (Nat.le_of_ble_eq_true rfl) (Nat.le_of_ble_eq_true rfl) ?_
  refine lv_dup hx hb dX11_claim_7 rfl ?_
  refine lv_aload_n hx hb dX11_claim_8 rfl (lv_at hl 0 rfl) ?_
  refine va_get (D := G) (ci := 10) (v := .ref r1) (C := RX11) (T := TX11) (N := 9) hx hb hU in_X11 hown hK.1 hP 0 rfl rfl 0 (by decide) (hU _ u_250) (fun _ h9 => h9) rfl dX11_claim_9 ?_
  refine lv_aload_n hx hb dX11_claim_12 rfl (lv_at hl 0 rfl) ?_
  refine va_get (D := G) (ci := 10) (v := .int 0) (C := RX11) (T := TX11) (N := 9) hx hb hU in_X11 hown hK.1 hP 0 rfl rfl 1 (by decide) (hU _ u_251) (fun _ h9 => h9) rfl dX11_claim_13 ?_
  refine kt_callI (wc := [(q_2, .inr (8, [.null, .int 0, .int 0, .int 0, .int 0, .int 0]))]) (wr := [(h0, .inr (10, [.ref r1, .int 0, .int (-1), .ref r2, .ref r4, .ref r6, .int (-2), .ref r7, .ref r9])), (r2, .inr (0, [.ref r3, .int 0, .int 0])), (r6, .inl (cy 5, 7, .inr (.inr (.inr (.inr (fun _ => none)))))), (q_1, .inr (1, [.null, .null, .int 0, .int 0, .null]))]) (As := [.ref r1, .int 0]) (rest := [.ref q_2, .ref q_1, .ref q_1]) (c_X8_init l G cy q_2 r1) m_X8_init u_490 hx hb hml hown hU hl.1 hK hP hD hS hA dX11_claim_16 [4] [0, 1, 2, 3] rfl rfl rfl rfl rfl rfl (Nat.le_of_ble_eq_true rfl) (fun v9 w9 H locs hw hP hD hS => ?_)
  obtain ⟨rfl, rfl⟩ := hw
  have hP : va_P G vwCl [(h0, .inr (10, [.ref r1, .int 0, .int (-1), .ref r2, .ref r4, .ref r6, .int (-2), .ref r7, .ref r9])), (r2, .inr (0, [.ref r3, .int 0, .int 0])), (r6, .inl (cy 5, 7, .inr (.inr (.inr (.inr (fun _ => none)))))), (q_1, .inr (1, [.null, .null, .int 0, .int 0, .null])), (q_2, .inr (8, [.ref r1, .int 0, .int 0, .int 0, .int 0, .int (-1)]))] H := hP
  have hD : va_D A [(h0, .inr (10, [.ref r1, .int 0, .int (-1), .ref r2, .ref r4, .ref r6, .int (-2), .ref r7, .ref r9])), (r2, .inr (0, [.ref r3, .int 0, .int 0])), (r6, .inl (cy 5, 7, .inr (.inr (.inr (.inr (fun _ => none)))))), (q_1, .inr (1, [.null, .null, .int 0, .int 0, .null])), (q_2, .inr (8, [.ref r1, .int 0, .int 0, .int 0, .int 0, .int (-1)]))] := hD
  refine W.eq (g2 := F0 m 19 ls [.ref q_2, .ref q_1, .ref q_1]) rfl ?_
  refine W.widen (k := 2) (n := 11) (Nat.le_of_ble_eq_true rfl) (Nat.le_of_ble_eq_true rfl) ?_
  refine kt_callI (wc := [(q_1, .inr (1, [.null, .null, .int 0, .int 0, .null]))]) (wr := [(h0, .inr (10, [.ref r1, .int 0, .int (-1), .ref r2, .ref r4, .ref r6, .int (-2), .ref r7, .ref r9])), (r2, .inr (0, [.ref r3, .int 0, .int 0])), (r6, .inl (cy 5, 7, .inr (.inr (.inr (.inr (fun _ => none)))))), (q_2, .inr (8, [.ref r1, .int 0, .int 0, .int 0, .int 0, .int (-1)]))]) (As := [.ref q_2]) (rest := [.ref q_1]) (c_X1_init l G cy q_1 q_2) m_X1_init u_516 hx hb hml hown hU hl.1 hK hP hD hS hA dX11_claim_19 [3] [0, 1, 2, 4] rfl rfl rfl rfl rfl rfl (Nat.le_of_ble_eq_true rfl) (fun v9 w9 H locs hw hP hD hS => ?_)
  obtain ⟨x_3, x_4, x_5, rfl, rfl⟩ := hw
  have hP : va_P G vwCl [(h0, .inr (10, [.ref r1, .int 0, .int (-1), .ref r2, .ref r4, .ref r6, .int (-2), .ref r7, .ref r9])), (r2, .inr (0, [.ref r3, .int 0, .int 0])), (r6, .inl (cy 5, 7, .inr (.inr (.inr (.inr (fun _ => none)))))), (q_2, .inr (8, [.ref r1, .int 0, .int 0, .int 0, .int 0, .int (-1)])), (q_1, .inr (1, [.ref q_2, .ref x_3, .int 0, .int (-1), .ref x_4])), (x_3, .inl (cy 4, 56, .inr (.inr (.inr (.inr (fun _ => none)))))), (x_4, .inr (4, [.int 0, .int 0, .int (-1), .ref x_5])), (x_5, .inl (cy 1, 6, .inl (fun _ => 0)))] H := hP
  have hD : va_D A [(h0, .inr (10, [.ref r1, .int 0, .int (-1), .ref r2, .ref r4, .ref r6, .int (-2), .ref r7, .ref r9])), (r2, .inr (0, [.ref r3, .int 0, .int 0])), (r6, .inl (cy 5, 7, .inr (.inr (.inr (.inr (fun _ => none)))))), (q_2, .inr (8, [.ref r1, .int 0, .int 0, .int 0, .int 0, .int (-1)])), (q_1, .inr (1, [.ref q_2, .ref x_3, .int 0, .int (-1), .ref x_4])), (x_3, .inl (cy 4, 56, .inr (.inr (.inr (.inr (fun _ => none)))))), (x_4, .inr (4, [.int 0, .int 0, .int (-1), .ref x_5])), (x_5, .inl (cy 1, 6, .inl (fun _ => 0)))] := hD
  refine W.eq (g2 := F0 m 22 ls [.ref q_1]) rfl ?_
  refine W.widen (k := 5) (n := 77) (Nat.le_of_ble_eq_true rfl) (Nat.le_of_ble_eq_true rfl) ?_
  refine lv_astore_n (lv' := [(1, .ref q_1), (0, .ref h0)]) hx hb dX11_claim_22 rfl hl (by decide) rfl (fun ls hl => ?_)
  refine lv_aload_n hx hb dX11_claim_23 rfl (lv_at hl 1 rfl) ?_
  refine lv_iconst (v := 0) hx hb dX11_claim_24 (by decide) ?_
  refine va_put (D := G) (ci := 10) (v := .int 0) (ty := .int) (C := RX11) (T := TX11) (N := 9) hx hb hU in_X11 tyX11 tyX11_ok nmX11 hown hK.1 hP hD hS 0 rfl rfl 1 (by decide) (hU _ u_251) (fun _ h9 => h9) rfl (by decide +kernel) rfl rfl (Nat.le_of_ble_eq_true rfl) dX11_claim_25 (fun H locs hP hD hS => ?_)
  have hP : va_P G vwCl [(h0, .inr (10, [.ref r1, .int 0, .int (-1), .ref r2, .ref r4, .ref r6, .int (-2), .ref r7, .ref r9])), (r2, .inr (0, [.ref r3, .int 0, .int 0])), (r6, .inl (cy 5, 7, .inr (.inr (.inr (.inr (fun _ => none)))))), (q_2, .inr (8, [.ref r1, .int 0, .int 0, .int 0, .int 0, .int (-1)])), (q_1, .inr (1, [.ref q_2, .ref x_3, .int 0, .int (-1), .ref x_4])), (x_3, .inl (cy 4, 56, .inr (.inr (.inr (.inr (fun _ => none)))))), (x_4, .inr (4, [.int 0, .int 0, .int (-1), .ref x_5])), (x_5, .inl (cy 1, 6, .inl (fun _ => 0)))] H := hP
  have hD : va_D A [(h0, .inr (10, [.ref r1, .int 0, .int (-1), .ref r2, .ref r4, .ref r6, .int (-2), .ref r7, .ref r9])), (r2, .inr (0, [.ref r3, .int 0, .int 0])), (r6, .inl (cy 5, 7, .inr (.inr (.inr (.inr (fun _ => none)))))), (q_2, .inr (8, [.ref r1, .int 0, .int 0, .int 0, .int 0, .int (-1)])), (q_1, .inr (1, [.ref q_2, .ref x_3, .int 0, .int (-1), .ref x_4])), (x_3, .inl (cy 4, 56, .inr (.inr (.inr (.inr (fun _ => none)))))), (x_4, .inr (4, [.int 0, .int 0, .int (-1), .ref x_5])), (x_5, .inl (cy 1, 6, .inl (fun _ => 0)))] := hD
  refine lv_aload_n hx hb dX11_claim_28 rfl (lv_at hl 0 rfl) ?_
  refine lv_bipush (v := 16) hx hb dX11_claim_29 (by decide) ?_
  refine kt_callU (wc := [(q_1, .inr (1, [.ref q_2, .ref x_3, .int 0, .int (-1), .ref x_4])), (q_2, .inr (8, [.ref r1, .int 0, .int 0, .int 0, .int 0, .int (-1)]))]) (wr := [(h0, .inr (10, [.ref r1, .int 0, .int (-1), .ref r2, .ref r4, .ref r6, .int (-2), .ref r7, .ref r9])), (r2, .inr (0, [.ref r3, .int 0, .int 0])), (r6, .inl (cy 5, 7, .inr (.inr (.inr (.inr (fun _ => none)))))), (x_3, .inl (cy 4, 56, .inr (.inr (.inr (.inr (fun _ => none)))))), (x_4, .inr (4, [.int 0, .int 0, .int (-1), .ref x_5])), (x_5, .inl (cy 1, 6, .inl (fun _ => 0)))]) (As := [.int 16]) (rest := []) (c_X9_readText_1 l G cy q_1 q_2 x_3 x_4 r1 16 (by decide)) mu_X9_readText_RX1 u_561 hx hb hml hown hU hl.1 hK hP hD hS hA dX11_claim_31 [4, 3] [0, 1, 2, 5, 6, 7] rfl rfl rfl rfl rfl rfl (Nat.le_of_ble_eq_true rfl) (ci := 1) rfl rfl rfl (fun v9 w9 H locs hw hP hD hS => ?_)
  obtain ⟨rfl, rfl⟩ := hw
  have hP : va_P G vwCl [(h0, .inr (10, [.ref r1, .int 0, .int (-1), .ref r2, .ref r4, .ref r6, .int (-2), .ref r7, .ref r9])), (r2, .inr (0, [.ref r3, .int 0, .int 0])), (r6, .inl (cy 5, 7, .inr (.inr (.inr (.inr (fun _ => none)))))), (x_3, .inl (cy 4, 56, .inr (.inr (.inr (.inr (fun _ => none)))))), (x_4, .inr (4, [.int 0, .int 0, .int (-1), .ref x_5])), (x_5, .inl (cy 1, 6, .inl (fun _ => 0))), (q_1, .inr (1, [.ref q_2, .ref x_3, .int 0, .int (-1), .ref x_4]))] H := hP
  have hD : va_D A [(h0, .inr (10, [.ref r1, .int 0, .int (-1), .ref r2, .ref r4, .ref r6, .int (-2), .ref r7, .ref r9])), (r2, .inr (0, [.ref r3, .int 0, .int 0])), (r6, .inl (cy 5, 7, .inr (.inr (.inr (.inr (fun _ => none)))))), (x_3, .inl (cy 4, 56, .inr (.inr (.inr (.inr (fun _ => none)))))), (x_4, .inr (4, [.int 0, .int 0, .int (-1), .ref x_5])), (x_5, .inl (cy 1, 6, .inl (fun _ => 0))), (q_1, .inr (1, [.ref q_2, .ref x_3, .int 0, .int (-1), .ref x_4]))] := hD
  refine W.eq (g2 := F0 m 34 ls [.int 1]) rfl ?_
  refine W.widen (k := 5) (n := 77) (Nat.le_of_ble_eq_true rfl) (Nat.le_of_ble_eq_true rfl) ?_
  refine lv_istore_n (lv' := [(2, .int 1), (1, .ref q_1), (0, .ref h0)]) hx hb dX11_claim_34 rfl hl (by decide) rfl (fun ls hl => ?_)
  refine lv_aload_n hx hb dX11_claim_35 rfl (lv_at hl 2 rfl) ?_
  refine lv_aload_n hx hb dX11_claim_36 rfl (lv_at hl 1 rfl) ?_
  refine va_get (D := G) (ci := 1) (v := .int (-1)) (C := RX1) (T := TX1) (N := 5) hx hb hU in_X1 hown hK.1 hP 6 rfl rfl 3 (by decide) (hU _ u_546) (fun x9 h9 => u_same (hU _ u_547) x9 h9) rfl dX11_claim_37 ?_
  refine va_put (D := G) (ci := 10) (v := .int (-1)) (ty := .int) (C := RX11) (T := TX11) (N := 9) hx hb hU in_X11 tyX11 tyX11_ok nmX11 hown hK.1 hP hD hS 0 rfl rfl 2 (by decide) (hU _ u_252) (fun _ h9 => h9) rfl (by decide +kernel) rfl rfl (Nat.le_of_ble_eq_true rfl) dX11_claim_40 (fun H locs hP hD hS => ?_)
  have hP : va_P G vwCl [(h0, .inr (10, [.ref r1, .int 0, .int (-1), .ref r2, .ref r4, .ref r6, .int (-2), .ref r7, .ref r9])), (r2, .inr (0, [.ref r3, .int 0, .int 0])), (r6, .inl (cy 5, 7, .inr (.inr (.inr (.inr (fun _ => none)))))), (x_3, .inl (cy 4, 56, .inr (.inr (.inr (.inr (fun _ => none)))))), (x_4, .inr (4, [.int 0, .int 0, .int (-1), .ref x_5])), (x_5, .inl (cy 1, 6, .inl (fun _ => 0))), (q_1, .inr (1, [.ref q_2, .ref x_3, .int 0, .int (-1), .ref x_4]))] H := hP
  have hD : va_D A [(h0, .inr (10, [.ref r1, .int 0, .int (-1), .ref r2, .ref r4, .ref r6, .int (-2), .ref r7, .ref r9])), (r2, .inr (0, [.ref r3, .int 0, .int 0])), (r6, .inl (cy 5, 7, .inr (.inr (.inr (.inr (fun _ => none)))))), (x_3, .inl (cy 4, 56, .inr (.inr (.inr (.inr (fun _ => none)))))), (x_4, .inr (4, [.int 0, .int 0, .int (-1), .ref x_5])), (x_5, .inl (cy 1, 6, .inl (fun _ => 0))), (q_1, .inr (1, [.ref q_2, .ref x_3, .int 0, .int (-1), .ref x_4]))] := hD
  refine lv_iload_n hx hb dX11_claim_43 rfl (lv_at hl 0 rfl) ?_
  refine lv_if_ne (tgt := 57) hx hb dX11_claim_44 (by decide) (fun _ => ?_) (fun c9 => absurd c9 (by decide))
  refine lv_aload_n hx hb dX11_claim_57 rfl (lv_at hl 2 rfl) ?_
  refine va_new (ci := 0) (fs := [.null, .int 0, .int 0]) (C := RX0) (T := TX0) (N := 3) hx hb hU in_X0 tyX0 tyX0_ok hown (hU _ u_159) (hU _ u_160) (hU _ u_124) hK.1 hP hD hS hA rfl df_X0 (Nat.le_of_ble_eq_true rfl) (Nat.le_of_ble_eq_true rfl) dX11_claim_58 (fun q_6 H hP hD hS => ?_)
  have hP : va_P G vwCl [(h0, .inr (10, [.ref r1, .int 0, .int (-1), .ref r2, .ref r4, .ref r6, .int (-2), .ref r7, .ref r9])), (r2, .inr (0, [.ref r3, .int 0, .int 0])), (r6, .inl (cy 5, 7, .inr (.inr (.inr (.inr (fun _ => none)))))), (x_3, .inl (cy 4, 56, .inr (.inr (.inr (.inr (fun _ => none)))))), (x_4, .inr (4, [.int 0, .int 0, .int (-1), .ref x_5])), (x_5, .inl (cy 1, 6, .inl (fun _ => 0))), (q_1, .inr (1, [.ref q_2, .ref x_3, .int 0, .int (-1), .ref x_4])), (q_6, .inr (0, [.null, .int 0, .int 0]))] H := hP
  have hD : va_D A [(h0, .inr (10, [.ref r1, .int 0, .int (-1), .ref r2, .ref r4, .ref r6, .int (-2), .ref r7, .ref r9])), (r2, .inr (0, [.ref r3, .int 0, .int 0])), (r6, .inl (cy 5, 7, .inr (.inr (.inr (.inr (fun _ => none)))))), (x_3, .inl (cy 4, 56, .inr (.inr (.inr (.inr (fun _ => none)))))), (x_4, .inr (4, [.int 0, .int 0, .int (-1), .ref x_5])), (x_5, .inl (cy 1, 6, .inl (fun _ => 0))), (q_1, .inr (1, [.ref q_2, .ref x_3, .int 0, .int (-1), .ref x_4])), (q_6, .inr (0, [.null, .int 0, .int 0]))] := hD
  refine W.widen (k := 6) (n := 80) (Nat.le_of_ble_eq_true rfl) (Nat.le_of_ble_eq_true rfl) ?_
  refine lv_dup hx hb dX11_claim_61 rfl ?_
  refine lv_aload_n hx hb dX11_claim_62 rfl (lv_at hl 1 rfl) ?_
  refine va_get (D := G) (ci := 1) (v := .ref x_3) (C := RX1) (T := TX1) (N := 5) hx hb hU in_X1 hown hK.1 hP 6 rfl rfl 1 (by decide) (hU _ u_536) (fun x9 h9 => u_same (hU _ u_537) x9 h9) rfl dX11_claim_63 ?_
  refine lv_aload_n hx hb dX11_claim_66 rfl (lv_at hl 1 rfl) ?_
  refine va_get (D := G) (ci := 1) (v := .int 0) (C := RX1) (T := TX1) (N := 5) hx hb hU in_X1 hown hK.1 hP 6 rfl rfl 2 (by decide) (hU _ u_542) (fun x9 h9 => u_same (hU _ u_543) x9 h9) rfl dX11_claim_67 ?_
  refine lv_aload_n hx hb dX11_claim_70 rfl (lv_at hl 1 rfl) ?_
  refine va_get (D := G) (ci := 1) (v := .int 0) (C := RX1) (T := TX1) (N := 5) hx hb hU in_X1 hown hK.1 hP 6 rfl rfl 2 (by decide) (hU _ u_542) (fun x9 h9 => u_same (hU _ u_543) x9 h9) rfl dX11_claim_71 ?_
  refine kt_callI (wc := [(q_6, .inr (0, [.null, .int 0, .int 0]))]) (wr := [(h0, .inr (10, [.ref r1, .int 0, .int (-1), .ref r2, .ref r4, .ref r6, .int (-2), .ref r7, .ref r9])), (r2, .inr (0, [.ref r3, .int 0, .int 0])), (r6, .inl (cy 5, 7, .inr (.inr (.inr (.inr (fun _ => none)))))), (x_3, .inl (cy 4, 56, .inr (.inr (.inr (.inr (fun _ => none)))))), (x_4, .inr (4, [.int 0, .int 0, .int (-1), .ref x_5])), (x_5, .inl (cy 1, 6, .inl (fun _ => 0))), (q_1, .inr (1, [.ref q_2, .ref x_3, .int 0, .int (-1), .ref x_4]))]) (As := [.ref x_3, .int 0, .int 0]) (rest := [.ref q_6, .ref h0]) (c_X0_init l G cy q_6 x_3 0 0) m_X0_init u_163 hx hb hml hown hU hl.1 hK hP hD hS hA dX11_claim_74 [7] [0, 1, 2, 3, 4, 5, 6] rfl rfl rfl rfl rfl rfl (Nat.le_of_ble_eq_true rfl) (fun v9 w9 H locs hw hP hD hS => ?_)
  obtain ⟨rfl, rfl⟩ := hw
  have hP : va_P G vwCl [(h0, .inr (10, [.ref r1, .int 0, .int (-1), .ref r2, .ref r4, .ref r6, .int (-2), .ref r7, .ref r9])), (r2, .inr (0, [.ref r3, .int 0, .int 0])), (r6, .inl (cy 5, 7, .inr (.inr (.inr (.inr (fun _ => none)))))), (x_3, .inl (cy 4, 56, .inr (.inr (.inr (.inr (fun _ => none)))))), (x_4, .inr (4, [.int 0, .int 0, .int (-1), .ref x_5])), (x_5, .inl (cy 1, 6, .inl (fun _ => 0))), (q_1, .inr (1, [.ref q_2, .ref x_3, .int 0, .int (-1), .ref x_4])), (q_6, .inr (0, [.ref x_3, .int 0, .int 0]))] H := hP
  have hD : va_D A [(h0, .inr (10, [.ref r1, .int 0, .int (-1), .ref r2, .ref r4, .ref r6, .int (-2), .ref r7, .ref r9])), (r2, .inr (0, [.ref r3, .int 0, .int 0])), (r6, .inl (cy 5, 7, .inr (.inr (.inr (.inr (fun _ => none)))))), (x_3, .inl (cy 4, 56, .inr (.inr (.inr (.inr (fun _ => none)))))), (x_4, .inr (4, [.int 0, .int 0, .int (-1), .ref x_5])), (x_5, .inl (cy 1, 6, .inl (fun _ => 0))), (q_1, .inr (1, [.ref q_2, .ref x_3, .int 0, .int (-1), .ref x_4])), (q_6, .inr (0, [.ref x_3, .int 0, .int 0]))] := hD
  refine W.eq (g2 := F0 m 77 ls [.ref q_6, .ref h0]) rfl ?_
  refine W.widen (k := 6) (n := 80) (Nat.le_of_ble_eq_true rfl) (Nat.le_of_ble_eq_true rfl) ?_
  refine va_put (D := G) (ci := 10) (v := .ref q_6) (ty := .object "PlaneProof$Book") (C := RX11) (T := TX11) (N := 9) hx hb hU in_X11 tyX11 tyX11_ok nmX11 hown hK.1 hP hD hS 0 rfl rfl 3 (by decide) (hU _ u_253) (fun _ h9 => h9) rfl (by decide +kernel) rfl rfl (Nat.le_of_ble_eq_true rfl) dX11_claim_77 (fun H locs hP hD hS => ?_)
  have hP : va_P G vwCl [(h0, .inr (10, [.ref r1, .int 0, .int (-1), .ref q_6, .ref r4, .ref r6, .int (-2), .ref r7, .ref r9])), (r2, .inr (0, [.ref r3, .int 0, .int 0])), (r6, .inl (cy 5, 7, .inr (.inr (.inr (.inr (fun _ => none)))))), (x_3, .inl (cy 4, 56, .inr (.inr (.inr (.inr (fun _ => none)))))), (x_4, .inr (4, [.int 0, .int 0, .int (-1), .ref x_5])), (x_5, .inl (cy 1, 6, .inl (fun _ => 0))), (q_1, .inr (1, [.ref q_2, .ref x_3, .int 0, .int (-1), .ref x_4])), (q_6, .inr (0, [.ref x_3, .int 0, .int 0]))] H := hP
  have hD : va_D A [(h0, .inr (10, [.ref r1, .int 0, .int (-1), .ref q_6, .ref r4, .ref r6, .int (-2), .ref r7, .ref r9])), (r2, .inr (0, [.ref r3, .int 0, .int 0])), (r6, .inl (cy 5, 7, .inr (.inr (.inr (.inr (fun _ => none)))))), (x_3, .inl (cy 4, 56, .inr (.inr (.inr (.inr (fun _ => none)))))), (x_4, .inr (4, [.int 0, .int 0, .int (-1), .ref x_5])), (x_5, .inl (cy 1, 6, .inl (fun _ => 0))), (q_1, .inr (1, [.ref q_2, .ref x_3, .int 0, .int (-1), .ref x_4])), (q_6, .inr (0, [.ref x_3, .int 0, .int 0]))] := hD
  refine lv_aload_n hx hb dX11_claim_80 rfl (lv_at hl 2 rfl) ?_
  refine lv_aload_n hx hb dX11_claim_81 rfl (lv_at hl 1 rfl) ?_
  refine va_get (D := G) (ci := 1) (v := .ref x_4) (C := RX1) (T := TX1) (N := 5) hx hb hU in_X1 hown hK.1 hP 6 rfl rfl 4 (by decide) (hU _ u_527) (fun _ h9 => h9) rfl dX11_claim_82 ?_
  refine va_put (D := G) (ci := 10) (v := .ref x_4) (ty := .object "PlaneProof$Graph") (C := RX11) (T := TX11) (N := 9) hx hb hU in_X11 tyX11 tyX11_ok nmX11 hown hK.1 hP hD hS 0 rfl rfl 4 (by decide) (hU _ u_254) (fun _ h9 => h9) rfl (by decide +kernel) rfl rfl (Nat.le_of_ble_eq_true rfl) dX11_claim_85 (fun H locs hP hD hS => ?_)
  have hP : va_P G vwCl [(h0, .inr (10, [.ref r1, .int 0, .int (-1), .ref q_6, .ref x_4, .ref r6, .int (-2), .ref r7, .ref r9])), (r2, .inr (0, [.ref r3, .int 0, .int 0])), (r6, .inl (cy 5, 7, .inr (.inr (.inr (.inr (fun _ => none)))))), (x_3, .inl (cy 4, 56, .inr (.inr (.inr (.inr (fun _ => none)))))), (x_4, .inr (4, [.int 0, .int 0, .int (-1), .ref x_5])), (x_5, .inl (cy 1, 6, .inl (fun _ => 0))), (q_1, .inr (1, [.ref q_2, .ref x_3, .int 0, .int (-1), .ref x_4])), (q_6, .inr (0, [.ref x_3, .int 0, .int 0]))] H := hP
  have hD : va_D A [(h0, .inr (10, [.ref r1, .int 0, .int (-1), .ref q_6, .ref x_4, .ref r6, .int (-2), .ref r7, .ref r9])), (r2, .inr (0, [.ref r3, .int 0, .int 0])), (r6, .inl (cy 5, 7, .inr (.inr (.inr (.inr (fun _ => none)))))), (x_3, .inl (cy 4, 56, .inr (.inr (.inr (.inr (fun _ => none)))))), (x_4, .inr (4, [.int 0, .int 0, .int (-1), .ref x_5])), (x_5, .inl (cy 1, 6, .inl (fun _ => 0))), (q_1, .inr (1, [.ref q_2, .ref x_3, .int 0, .int (-1), .ref x_4])), (q_6, .inr (0, [.ref x_3, .int 0, .int 0]))] := hD
  refine lv_aload_n hx hb dX11_claim_88 rfl (lv_at hl 2 rfl) ?_
  refine kt_callV (wc := [(h0, .inr (10, [.ref r1, .int 0, .int (-1), .ref q_6, .ref x_4, .ref r6, .int (-2), .ref r7, .ref r9])), (r6, .inl (cy 5, 7, .inr (.inr (.inr (.inr (fun _ => none))))))]) (wr := [(r2, .inr (0, [.ref r3, .int 0, .int 0])), (x_3, .inl (cy 4, 56, .inr (.inr (.inr (.inr (fun _ => none)))))), (x_4, .inr (4, [.int 0, .int 0, .int (-1), .ref x_5])), (x_5, .inl (cy 1, 6, .inl (fun _ => 0))), (q_1, .inr (1, [.ref q_2, .ref x_3, .int 0, .int (-1), .ref x_4])), (q_6, .inr (0, [.ref x_3, .int 0, .int 0]))]) (As := []) (rest := []) (c_X11_forgetAnswers l G cy h0 r1 q_6 x_4 r6 r7 r9) m_X11_forgetAnswers u_1045 hx hb hml hown hU hl.1 hK hP hD hS hA dX11_claim_89 [0, 2] [1, 3, 4, 5, 6, 7] rfl rfl rfl rfl rfl rfl (Nat.le_of_ble_eq_true rfl) (ci := 10) rfl rfl rfl (fun v9 w9 H locs hw hP hD hS => ?_)
  obtain ⟨rfl, rfl⟩ := hw
  have hP : va_P G vwCl [(r2, .inr (0, [.ref r3, .int 0, .int 0])), (x_3, .inl (cy 4, 56, .inr (.inr (.inr (.inr (fun _ => none)))))), (x_4, .inr (4, [.int 0, .int 0, .int (-1), .ref x_5])), (x_5, .inl (cy 1, 6, .inl (fun _ => 0))), (q_1, .inr (1, [.ref q_2, .ref x_3, .int 0, .int (-1), .ref x_4])), (q_6, .inr (0, [.ref x_3, .int 0, .int 0])), (h0, .inr (10, [.ref r1, .int 0, .int (-1), .ref q_6, .ref x_4, .ref r6, .int (-2), .ref r7, .ref r9])), (r6, .inl (cy 5, 7, .inr (.inr (.inr (.inr (fun _ => none))))))] H := hP
  have hD : va_D A [(r2, .inr (0, [.ref r3, .int 0, .int 0])), (x_3, .inl (cy 4, 56, .inr (.inr (.inr (.inr (fun _ => none)))))), (x_4, .inr (4, [.int 0, .int 0, .int (-1), .ref x_5])), (x_5, .inl (cy 1, 6, .inl (fun _ => 0))), (q_1, .inr (1, [.ref q_2, .ref x_3, .int 0, .int (-1), .ref x_4])), (q_6, .inr (0, [.ref x_3, .int 0, .int 0])), (h0, .inr (10, [.ref r1, .int 0, .int (-1), .ref q_6, .ref x_4, .ref r6, .int (-2), .ref r7, .ref r9])), (r6, .inl (cy 5, 7, .inr (.inr (.inr (.inr (fun _ => none))))))] := hD
  refine W.eq (g2 := F0 m 92 ls []) rfl ?_
  refine W.widen (k := 6) (n := 80) (Nat.le_of_ble_eq_true rfl) (Nat.le_of_ble_eq_true rfl) ?_
  refine lv_aload_n hx hb dX11_claim_92 rfl (lv_at hl 2 rfl) ?_
  refine va_get (D := G) (ci := 10) (v := .ref q_6) (C := RX11) (T := TX11) (N := 9) hx hb hU in_X11 hown hK.1 hP 6 rfl rfl 3 (by decide) (hU _ u_253) (fun _ h9 => h9) rfl dX11_claim_93 ?_
  refine va_get (D := G) (ci := 0) (v := .int 0) (C := RX0) (T := TX0) (N := 3) hx hb hU in_X0 hown hK.1 hP 5 rfl rfl 1 (by decide) (hU _ u_178) (fun _ h9 => h9) rfl dX11_claim_96 ?_
  exact kt_iret hx hb hr hlocks hP hD hS dX11_claim_99 [] rfl rfl rfl rfl ⟨rfl, rfl⟩
set_option maxHeartbeats 4000000 in
set_option maxRecDepth 100000 in
theorem c_X11_proof (l : Launch) (G : va_G) (cy : Nat → ClassId) (h0 : Nat) (r1 : Nat) (r2 : Nat) (r4 : Nat) (r6 : Nat) (r7 : Nat) (r9 : Nat) (r3 : Nat) : Kt l G cy yX11_proof cX11_proof 3 (some .int) ({ frames := 16, cells := 4, slots := 69, locals := 500 } : Room) [.ref h0] [(h0, .inr (10, [.ref r1, .int 0, .int (-1), .ref r2, .ref r4, .ref r6, .int (-2), .ref r7, .ref r9])), (r2, .inr (0, [.ref r3, .int 0, .int 0]))] (fun (v : Option Value) (w1 : va_W) => v = some (.int 0) ∧ w1 = []) := by
  refine kt_ofW (by decide) (Nat.le_of_ble_eq_true rfl) ?_
  intro p e s m below meth c A ls hx hb hr hU hown hlocks hml hin hP hK hD hA hS hl
  have hown : s.vm.findClass RX11 = some m.cls := hown
  have hl : lv_has ls 3 [(0, .ref h0)] := hl
  refine va_new (ci := 6) (fs := [.null, .null, .int 0, .int 0]) (C := RX6) (T := TX6) (N := 4) hx hb hU in_X6 tyX6 tyX6_ok hown (hU _ u_1056) (hU _ u_846) (hU _ u_137) hK.1 hP hD hS hA rfl df_X6 (Nat.le_of_ble_eq_true rfl) (Nat.le_of_ble_eq_true rfl) dX11_proof_0 (fun q_1 H hP hD hS => ?_)
  have hP : va_P G vwCl [(h0, .inr (10, [.ref r1, .int 0, .int (-1), .ref r2, .ref r4, .ref r6, .int (-2), .ref r7, .ref r9])), (r2, .inr (0, [.ref r3, .int 0, .int 0])), (q_1, .inr (6, [.null, .null, .int 0, .int 0]))] H := hP
  have hD : va_D A [(h0, .inr (10, [.ref r1, .int 0, .int (-1), .ref r2, .ref r4, .ref r6, .int (-2), .ref r7, .ref r9])), (r2, .inr (0, [.ref r3, .int 0, .int 0])), (q_1, .inr (6, [.null, .null, .int 0, .int 0]))] := hD
  refine W.widen (k := 1) (n := 4) (Nat.le_of_ble_eq_true rfl) (Nat.le_of_ble_eq_true rfl) ?_
  refine lv_dup hx hb dX11_proof_3 rfl ?_
  refine va_new (ci := 8) (fs := [.null, .int 0, .int 0, .int 0, .int 0, .int 0]) (C := RX8) (T := TX8) (N := 6) hx hb hU in_X8 tyX8 tyX8_ok hown (hU _ u_488) (hU _ u_489) (hU _ u_131) hK.1 hP hD hS hA rfl df_X8 (Nat.le_of_ble_eq_true rfl) (Nat.le_of_ble_eq_true rfl) dX11_proof_4 (fun q_2 H hP hD hS => ?_)
  have hP : va_P G vwCl [(h0, .inr (10, [.ref r1, .int 0, .int (-1), .ref r2, .ref r4, .ref r6, .int (-2), .ref r7, .ref r9])), (r2, .inr (0, [.ref r3, .int 0, .int 0])), (q_1, .inr (6, [.null, .null, .int 0, .int 0])), (q_2, .inr (8, [.null, .int 0, .int 0, .int 0, .int 0, .int 0]))] H := hP
  have hD : va_D A [(h0, .inr (10, [.ref r1, .int 0, .int (-1), .ref r2, .ref r4, .ref r6, .int (-2), .ref r7, .ref r9])), (r2, .inr (0, [.ref r3, .int 0, .int 0])), (q_1, .inr (6, [.null, .null, .int 0, .int 0])), (q_2, .inr (8, [.null, .int 0, .int 0, .int 0, .int 0, .int 0]))] := hD
  refine W.widen (k := 2) (n := 10) (Nat.le_of_ble_eq_true rfl) (Nat.le_of_ble_eq_true rfl) ?_
  refine lv_dup hx hb dX11_proof_7 rfl ?_
  refine lv_aload_n hx hb dX11_proof_8 rfl (lv_at hl 0 rfl) ?_
  refine va_get (D := G) (ci := 10) (v := .ref r1) (C := RX11) (T := TX11) (N := 9) hx hb hU in_X11 hown hK.1 hP 0 rfl rfl 0 (by decide) (hU _ u_250) (fun _ h9 => h9) rfl dX11_proof_9 ?_
  refine lv_aload_n hx hb dX11_proof_12 rfl (lv_at hl 0 rfl) ?_
  refine va_get (D := G) (ci := 10) (v := .int 0) (C := RX11) (T := TX11) (N := 9) hx hb hU in_X11 hown hK.1 hP 0 rfl rfl 1 (by decide) (hU _ u_251) (fun _ h9 => h9) rfl dX11_proof_13 ?_
  refine kt_callI (wc := [(q_2, .inr (8, [.null, .int 0, .int 0, .int 0, .int 0, .int 0]))]) (wr := [(h0, .inr (10, [.ref r1, .int 0, .int (-1), .ref r2, .ref r4, .ref r6, .int (-2), .ref r7, .ref r9])), (r2, .inr (0, [.ref r3, .int 0, .int 0])), (q_1, .inr (6, [.null, .null, .int 0, .int 0]))]) (As := [.ref r1, .int 0]) (rest := [.ref q_2, .ref q_1, .ref q_1]) (c_X8_init l G cy q_2 r1) m_X8_init u_490 hx hb hml hown hU hl.1 hK hP hD hS hA dX11_proof_16 [3] [0, 1, 2] rfl rfl rfl rfl rfl rfl (Nat.le_of_ble_eq_true rfl) (fun v9 w9 H locs hw hP hD hS => ?_)
  obtain ⟨rfl, rfl⟩ := hw
  have hP : va_P G vwCl [(h0, .inr (10, [.ref r1, .int 0, .int (-1), .ref r2, .ref r4, .ref r6, .int (-2), .ref r7, .ref r9])), (r2, .inr (0, [.ref r3, .int 0, .int 0])), (q_1, .inr (6, [.null, .null, .int 0, .int 0])), (q_2, .inr (8, [.ref r1, .int 0, .int 0, .int 0, .int 0, .int (-1)]))] H := hP
  have hD : va_D A [(h0, .inr (10, [.ref r1, .int 0, .int (-1), .ref r2, .ref r4, .ref r6, .int (-2), .ref r7, .ref r9])), (r2, .inr (0, [.ref r3, .int 0, .int 0])), (q_1, .inr (6, [.null, .null, .int 0, .int 0])), (q_2, .inr (8, [.ref r1, .int 0, .int 0, .int 0, .int 0, .int (-1)]))] := hD
  refine W.eq (g2 := F0 m 19 ls [.ref q_2, .ref q_1, .ref q_1]) rfl ?_
  refine W.widen (k := 2) (n := 10) (Nat.le_of_ble_eq_true rfl) (Nat.le_of_ble_eq_true rfl) ?_
  refine lv_aload_n hx hb dX11_proof_19 rfl (lv_at hl 0 rfl) ?_
  refine va_get (D := G) (ci := 10) (v := .ref r2) (C := RX11) (T := TX11) (N := 9) hx hb hU in_X11 hown hK.1 hP 0 rfl rfl 3 (by decide) (hU _ u_253) (fun _ h9 => h9) rfl dX11_proof_20 ?_
  refine kt_callI (wc := [(q_1, .inr (6, [.null, .null, .int 0, .int 0])), (r2, .inr (0, [.ref r3, .int 0, .int 0]))]) (wr := [(h0, .inr (10, [.ref r1, .int 0, .int (-1), .ref r2, .ref r4, .ref r6, .int (-2), .ref r7, .ref r9])), (q_2, .inr (8, [.ref r1, .int 0, .int 0, .int 0, .int 0, .int (-1)]))]) (As := [.ref q_2, .ref r2]) (rest := [.ref q_1]) (c_X6_init l G cy q_1 q_2 r2 r3) m_X6_init u_1057 hx hb hml hown hU hl.1 hK hP hD hS hA dX11_proof_23 [2, 1] [0, 3] rfl rfl rfl rfl rfl rfl (Nat.le_of_ble_eq_true rfl) (fun v9 w9 H locs hw hP hD hS => ?_)
  obtain ⟨x_3, rfl, rfl⟩ := hw
  have hP : va_P G vwCl [(h0, .inr (10, [.ref r1, .int 0, .int (-1), .ref r2, .ref r4, .ref r6, .int (-2), .ref r7, .ref r9])), (q_2, .inr (8, [.ref r1, .int 0, .int 0, .int 0, .int 0, .int (-1)])), (q_1, .inr (6, [.ref q_2, .ref x_3, .int 0, .int (-1)])), (x_3, .inl (cy 4, 56, .inr (.inr (.inr (.inr (fun _ => none)))))), (r2, .inr (0, [.ref r3, .int 0, .int 0]))] H := hP
  have hD : va_D A [(h0, .inr (10, [.ref r1, .int 0, .int (-1), .ref r2, .ref r4, .ref r6, .int (-2), .ref r7, .ref r9])), (q_2, .inr (8, [.ref r1, .int 0, .int 0, .int 0, .int 0, .int (-1)])), (q_1, .inr (6, [.ref q_2, .ref x_3, .int 0, .int (-1)])), (x_3, .inl (cy 4, 56, .inr (.inr (.inr (.inr (fun _ => none)))))), (r2, .inr (0, [.ref r3, .int 0, .int 0]))] := hD
  refine W.eq (g2 := F0 m 26 ls [.ref q_1]) rfl ?_
  refine W.widen (k := 3) (n := 66) (Nat.le_of_ble_eq_true rfl) (Nat.le_of_ble_eq_true rfl) ?_
  refine lv_astore_n (lv' := [(1, .ref q_1), (0, .ref h0)]) hx hb dX11_proof_26 rfl hl (by decide) rfl (fun ls hl => ?_)
  refine lv_aload_n hx hb dX11_proof_27 rfl (lv_at hl 1 rfl) ?_
  refine lv_iconst (v := 0) hx hb dX11_proof_28 (by decide) ?_
  refine va_put (D := G) (ci := 10) (v := .int 0) (ty := .int) (C := RX11) (T := TX11) (N := 9) hx hb hU in_X11 tyX11 tyX11_ok nmX11 hown hK.1 hP hD hS 0 rfl rfl 1 (by decide) (hU _ u_251) (fun _ h9 => h9) rfl (by decide +kernel) rfl rfl (Nat.le_of_ble_eq_true rfl) dX11_proof_29 (fun H locs hP hD hS => ?_)
  have hP : va_P G vwCl [(h0, .inr (10, [.ref r1, .int 0, .int (-1), .ref r2, .ref r4, .ref r6, .int (-2), .ref r7, .ref r9])), (q_2, .inr (8, [.ref r1, .int 0, .int 0, .int 0, .int 0, .int (-1)])), (q_1, .inr (6, [.ref q_2, .ref x_3, .int 0, .int (-1)])), (x_3, .inl (cy 4, 56, .inr (.inr (.inr (.inr (fun _ => none)))))), (r2, .inr (0, [.ref r3, .int 0, .int 0]))] H := hP
  have hD : va_D A [(h0, .inr (10, [.ref r1, .int 0, .int (-1), .ref r2, .ref r4, .ref r6, .int (-2), .ref r7, .ref r9])), (q_2, .inr (8, [.ref r1, .int 0, .int 0, .int 0, .int 0, .int (-1)])), (q_1, .inr (6, [.ref q_2, .ref x_3, .int 0, .int (-1)])), (x_3, .inl (cy 4, 56, .inr (.inr (.inr (.inr (fun _ => none)))))), (r2, .inr (0, [.ref r3, .int 0, .int 0]))] := hD
  refine lv_aload_n hx hb dX11_proof_32 rfl (lv_at hl 0 rfl) ?_
  refine lv_bipush (v := 40) hx hb dX11_proof_33 (by decide) ?_
  refine kt_callU (wc := [(q_1, .inr (6, [.ref q_2, .ref x_3, .int 0, .int (-1)])), (q_2, .inr (8, [.ref r1, .int 0, .int 0, .int 0, .int 0, .int (-1)]))]) (wr := [(h0, .inr (10, [.ref r1, .int 0, .int (-1), .ref r2, .ref r4, .ref r6, .int (-2), .ref r7, .ref r9])), (x_3, .inl (cy 4, 56, .inr (.inr (.inr (.inr (fun _ => none)))))), (r2, .inr (0, [.ref r3, .int 0, .int 0]))]) (As := [.int 40]) (rest := []) (c_X9_readText_6 l G cy q_1 q_2 x_3 r1 40 (by decide)) mu_X9_readText_RX6 u_1066 hx hb hml hown hU hl.1 hK hP hD hS hA dX11_proof_35 [2, 1] [0, 3, 4] rfl rfl rfl rfl rfl rfl (Nat.le_of_ble_eq_true rfl) (ci := 6) rfl rfl rfl (fun v9 w9 H locs hw hP hD hS => ?_)
  obtain ⟨rfl, rfl⟩ := hw
  have hP : va_P G vwCl [(h0, .inr (10, [.ref r1, .int 0, .int (-1), .ref r2, .ref r4, .ref r6, .int (-2), .ref r7, .ref r9])), (x_3, .inl (cy 4, 56, .inr (.inr (.inr (.inr (fun _ => none)))))), (r2, .inr (0, [.ref r3, .int 0, .int 0])), (q_1, .inr (6, [.ref q_2, .ref x_3, .int 0, .int (-1)]))] H := hP
  have hD : va_D A [(h0, .inr (10, [.ref r1, .int 0, .int (-1), .ref r2, .ref r4, .ref r6, .int (-2), .ref r7, .ref r9])), (x_3, .inl (cy 4, 56, .inr (.inr (.inr (.inr (fun _ => none)))))), (r2, .inr (0, [.ref r3, .int 0, .int 0])), (q_1, .inr (6, [.ref q_2, .ref x_3, .int 0, .int (-1)]))] := hD
  refine W.eq (g2 := F0 m 38 ls [.int 1]) rfl ?_
  refine W.widen (k := 3) (n := 66) (Nat.le_of_ble_eq_true rfl) (Nat.le_of_ble_eq_true rfl) ?_
  refine lv_istore_n (lv' := [(2, .int 1), (1, .ref q_1), (0, .ref h0)]) hx hb dX11_proof_38 rfl hl (by decide) rfl (fun ls hl => ?_)
  refine lv_aload_n hx hb dX11_proof_39 rfl (lv_at hl 2 rfl) ?_
  refine lv_aload_n hx hb dX11_proof_40 rfl (lv_at hl 1 rfl) ?_
  refine va_get (D := G) (ci := 6) (v := .int (-1)) (C := RX6) (T := TX6) (N := 4) hx hb hU in_X6 hown hK.1 hP 3 rfl rfl 3 (by decide) (hU _ u_548) (fun x9 h9 => u_same (hU _ u_549) x9 h9) rfl dX11_proof_41 ?_
  refine va_put (D := G) (ci := 10) (v := .int (-1)) (ty := .int) (C := RX11) (T := TX11) (N := 9) hx hb hU in_X11 tyX11 tyX11_ok nmX11 hown hK.1 hP hD hS 0 rfl rfl 2 (by decide) (hU _ u_252) (fun _ h9 => h9) rfl (by decide +kernel) rfl rfl (Nat.le_of_ble_eq_true rfl) dX11_proof_44 (fun H locs hP hD hS => ?_)
  have hP : va_P G vwCl [(h0, .inr (10, [.ref r1, .int 0, .int (-1), .ref r2, .ref r4, .ref r6, .int (-2), .ref r7, .ref r9])), (x_3, .inl (cy 4, 56, .inr (.inr (.inr (.inr (fun _ => none)))))), (r2, .inr (0, [.ref r3, .int 0, .int 0])), (q_1, .inr (6, [.ref q_2, .ref x_3, .int 0, .int (-1)]))] H := hP
  have hD : va_D A [(h0, .inr (10, [.ref r1, .int 0, .int (-1), .ref r2, .ref r4, .ref r6, .int (-2), .ref r7, .ref r9])), (x_3, .inl (cy 4, 56, .inr (.inr (.inr (.inr (fun _ => none)))))), (r2, .inr (0, [.ref r3, .int 0, .int 0])), (q_1, .inr (6, [.ref q_2, .ref x_3, .int 0, .int (-1)]))] := hD
  refine lv_iload_n hx hb dX11_proof_47 rfl (lv_at hl 0 rfl) ?_
  refine lv_if_ne (tgt := 61) hx hb dX11_proof_48 (by decide) (fun _ => ?_) (fun c9 => absurd c9 (by decide))
  refine lv_aload_n hx hb dX11_proof_61 rfl (lv_at hl 2 rfl) ?_
  refine va_new (ci := 0) (fs := [.null, .int 0, .int 0]) (C := RX0) (T := TX0) (N := 3) hx hb hU in_X0 tyX0 tyX0_ok hown (hU _ u_159) (hU _ u_160) (hU _ u_124) hK.1 hP hD hS hA rfl df_X0 (Nat.le_of_ble_eq_true rfl) (Nat.le_of_ble_eq_true rfl) dX11_proof_62 (fun q_4 H hP hD hS => ?_)
  have hP : va_P G vwCl [(h0, .inr (10, [.ref r1, .int 0, .int (-1), .ref r2, .ref r4, .ref r6, .int (-2), .ref r7, .ref r9])), (x_3, .inl (cy 4, 56, .inr (.inr (.inr (.inr (fun _ => none)))))), (r2, .inr (0, [.ref r3, .int 0, .int 0])), (q_1, .inr (6, [.ref q_2, .ref x_3, .int 0, .int (-1)])), (q_4, .inr (0, [.null, .int 0, .int 0]))] H := hP
  have hD : va_D A [(h0, .inr (10, [.ref r1, .int 0, .int (-1), .ref r2, .ref r4, .ref r6, .int (-2), .ref r7, .ref r9])), (x_3, .inl (cy 4, 56, .inr (.inr (.inr (.inr (fun _ => none)))))), (r2, .inr (0, [.ref r3, .int 0, .int 0])), (q_1, .inr (6, [.ref q_2, .ref x_3, .int 0, .int (-1)])), (q_4, .inr (0, [.null, .int 0, .int 0]))] := hD
  refine W.widen (k := 4) (n := 69) (Nat.le_of_ble_eq_true rfl) (Nat.le_of_ble_eq_true rfl) ?_
  refine lv_dup hx hb dX11_proof_65 rfl ?_
  refine lv_aload_n hx hb dX11_proof_66 rfl (lv_at hl 1 rfl) ?_
  refine va_get (D := G) (ci := 6) (v := .ref x_3) (C := RX6) (T := TX6) (N := 4) hx hb hU in_X6 hown hK.1 hP 3 rfl rfl 1 (by decide) (hU _ u_538) (fun x9 h9 => u_same (hU _ u_535) x9 h9) rfl dX11_proof_67 ?_
  refine lv_aload_n hx hb dX11_proof_70 rfl (lv_at hl 2 rfl) ?_
  refine va_get (D := G) (ci := 10) (v := .ref r2) (C := RX11) (T := TX11) (N := 9) hx hb hU in_X11 hown hK.1 hP 0 rfl rfl 3 (by decide) (hU _ u_253) (fun _ h9 => h9) rfl dX11_proof_71 ?_
  refine va_get (D := G) (ci := 0) (v := .int 0) (C := RX0) (T := TX0) (N := 3) hx hb hU in_X0 hown hK.1 hP 2 rfl rfl 1 (by decide) (hU _ u_178) (fun _ h9 => h9) rfl dX11_proof_74 ?_
  refine lv_aload_n hx hb dX11_proof_77 rfl (lv_at hl 1 rfl) ?_
  refine va_get (D := G) (ci := 6) (v := .int 0) (C := RX6) (T := TX6) (N := 4) hx hb hU in_X6 hown hK.1 hP 3 rfl rfl 2 (by decide) (hU _ u_544) (fun x9 h9 => u_same (hU _ u_541) x9 h9) rfl dX11_proof_78 ?_
  refine kt_callI (wc := [(q_4, .inr (0, [.null, .int 0, .int 0]))]) (wr := [(h0, .inr (10, [.ref r1, .int 0, .int (-1), .ref r2, .ref r4, .ref r6, .int (-2), .ref r7, .ref r9])), (x_3, .inl (cy 4, 56, .inr (.inr (.inr (.inr (fun _ => none)))))), (r2, .inr (0, [.ref r3, .int 0, .int 0])), (q_1, .inr (6, [.ref q_2, .ref x_3, .int 0, .int (-1)]))]) (As := [.ref x_3, .int 0, .int 0]) (rest := [.ref q_4, .ref h0]) (c_X0_init l G cy q_4 x_3 0 0) m_X0_init u_163 hx hb hml hown hU hl.1 hK hP hD hS hA dX11_proof_81 [4] [0, 1, 2, 3] rfl rfl rfl rfl rfl rfl (Nat.le_of_ble_eq_true rfl) (fun v9 w9 H locs hw hP hD hS => ?_)
  obtain ⟨rfl, rfl⟩ := hw
  have hP : va_P G vwCl [(h0, .inr (10, [.ref r1, .int 0, .int (-1), .ref r2, .ref r4, .ref r6, .int (-2), .ref r7, .ref r9])), (x_3, .inl (cy 4, 56, .inr (.inr (.inr (.inr (fun _ => none)))))), (r2, .inr (0, [.ref r3, .int 0, .int 0])), (q_1, .inr (6, [.ref q_2, .ref x_3, .int 0, .int (-1)])), (q_4, .inr (0, [.ref x_3, .int 0, .int 0]))] H := hP
  have hD : va_D A [(h0, .inr (10, [.ref r1, .int 0, .int (-1), .ref r2, .ref r4, .ref r6, .int (-2), .ref r7, .ref r9])), (x_3, .inl (cy 4, 56, .inr (.inr (.inr (.inr (fun _ => none)))))), (r2, .inr (0, [.ref r3, .int 0, .int 0])), (q_1, .inr (6, [.ref q_2, .ref x_3, .int 0, .int (-1)])), (q_4, .inr (0, [.ref x_3, .int 0, .int 0]))] := hD
  refine W.eq (g2 := F0 m 84 ls [.ref q_4, .ref h0]) rfl ?_
  refine W.widen (k := 4) (n := 69) (Nat.le_of_ble_eq_true rfl) (Nat.le_of_ble_eq_true rfl) ?_
  refine va_put (D := G) (ci := 10) (v := .ref q_4) (ty := .object "PlaneProof$Book") (C := RX11) (T := TX11) (N := 9) hx hb hU in_X11 tyX11 tyX11_ok nmX11 hown hK.1 hP hD hS 0 rfl rfl 3 (by decide) (hU _ u_253) (fun _ h9 => h9) rfl (by decide +kernel) rfl rfl (Nat.le_of_ble_eq_true rfl) dX11_proof_84 (fun H locs hP hD hS => ?_)
  have hP : va_P G vwCl [(h0, .inr (10, [.ref r1, .int 0, .int (-1), .ref q_4, .ref r4, .ref r6, .int (-2), .ref r7, .ref r9])), (x_3, .inl (cy 4, 56, .inr (.inr (.inr (.inr (fun _ => none)))))), (r2, .inr (0, [.ref r3, .int 0, .int 0])), (q_1, .inr (6, [.ref q_2, .ref x_3, .int 0, .int (-1)])), (q_4, .inr (0, [.ref x_3, .int 0, .int 0]))] H := hP
  have hD : va_D A [(h0, .inr (10, [.ref r1, .int 0, .int (-1), .ref q_4, .ref r4, .ref r6, .int (-2), .ref r7, .ref r9])), (x_3, .inl (cy 4, 56, .inr (.inr (.inr (.inr (fun _ => none)))))), (r2, .inr (0, [.ref r3, .int 0, .int 0])), (q_1, .inr (6, [.ref q_2, .ref x_3, .int 0, .int (-1)])), (q_4, .inr (0, [.ref x_3, .int 0, .int 0]))] := hD
  refine lv_aload_n hx hb dX11_proof_87 rfl (lv_at hl 2 rfl) ?_
  refine va_get (D := G) (ci := 10) (v := .ref q_4) (C := RX11) (T := TX11) (N := 9) hx hb hU in_X11 hown hK.1 hP 0 rfl rfl 3 (by decide) (hU _ u_253) (fun _ h9 => h9) rfl dX11_proof_88 ?_
  refine va_get (D := G) (ci := 0) (v := .int 0) (C := RX0) (T := TX0) (N := 3) hx hb hU in_X0 hown hK.1 hP 4 rfl rfl 2 (by decide) (hU _ u_181) (fun _ h9 => h9) rfl dX11_proof_91 ?_
  refine lv_aload_n hx hb dX11_proof_94 rfl (lv_at hl 2 rfl) ?_
  refine va_get (D := G) (ci := 10) (v := .ref q_4) (C := RX11) (T := TX11) (N := 9) hx hb hU in_X11 hown hK.1 hP 0 rfl rfl 3 (by decide) (hU _ u_253) (fun _ h9 => h9) rfl dX11_proof_95 ?_
  refine va_get (D := G) (ci := 0) (v := .int 0) (C := RX0) (T := TX0) (N := 3) hx hb hU in_X0 hown hK.1 hP 4 rfl rfl 1 (by decide) (hU _ u_178) (fun _ h9 => h9) rfl dX11_proof_98 ?_
  refine lv_isub hx hb dX11_proof_101 (lx_top (y := 0) (by decide +kernel) ?_)
  exact kt_iret hx hb hr hlocks hP hD hS dX11_proof_102 [] rfl rfl rfl rfl ⟨rfl, rfl⟩
