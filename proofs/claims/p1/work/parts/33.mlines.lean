set_option maxHeartbeats 4000000 in
set_option maxRecDepth 100000 in
theorem c_X12_line (l : Launch) (G : va_G) (cy : Nat → ClassId) (h0 : Nat) (a1 : Nat) (a2 : Nat) (a3 : Nat) (a4 : Nat) (a5 : Nat) (a6 : Nat) (a7 : Nat) (a8 : Nat) (a9 : Nat) (a10 : Nat) (a11 : Nat) (a12 : Nat) (a13 : Nat) (a14 : Nat) (a15 : Nat) (a16 : Nat) (a17 : Nat) (a18 : Nat) (p0 : Int32) (p1 : Int32) : Kt l G cy yX12_line cX12_line 3 (some .int) ({ frames := 14, cells := 0, slots := 0, locals := 400 } : Room) [.ref h0, .int p0, .int p1] [(h0, .inr (11, [.int 0, .ref a1, .int 0, .ref a2, .int 0, .int 0, .int 0, .int 0, .int (-1), .ref a3, .ref a4, .int 0, .int 0, .int 0, .ref a5, .ref a6, .int 0, .int (-1), .int 0, .int 0, .ref a7, .ref a8, .ref a9, .ref a10, .int 0, .int 0, .ref a11, .ref a12, .int 0, .int 0, .ref a13, .ref a14, .ref a15, .int 0, .int 0, .ref a16, .ref a17, .ref a18]))] (fun (v : Option Value) (w1 : va_W) => v = some (.int 0) ∧ w1 = [(h0, .inr (11, [.int 1, .ref a1, .int 0, .ref a2, .int 0, .int 0, .int 0, .int 0, .int (-1), .ref a3, .ref a4, .int 0, .int 0, .int 0, .ref a5, .ref a6, .int 0, .int (-1), .int 0, .int 0, .ref a7, .ref a8, .ref a9, .ref a10, .int 0, .int 0, .ref a11, .ref a12, .int 0, .int 0, .ref a13, .ref a14, .ref a15, .int 0, .int 0, .ref a16, .ref a17, .ref a18]))]) := by
  refine kt_ofW (by decide) (Nat.le_of_ble_eq_true rfl) ?_
  intro p e s m below meth c A ls hx hb hr hU hown hlocks hml hin hP hK hD hA hS hl
  have hown : s.vm.findClass RX12 = some m.cls := hown
  have hl : lv_has ls 3 [(0, .ref h0), (1, .int p0), (2, .int p1)] := hl
  refine lv_aload_n hx hb dX12_line_0 rfl (lv_at hl 0 rfl) ?_
  refine lv_iconst (v := 0) hx hb dX12_line_1 (by decide) ?_
  refine va_put (D := G) (ci := 11) (v := .int 0) (ty := .int) (C := RX12) (T := TX12) (N := 38) hx hb hU in_X12 tyX12 tyX12_ok nmX12 hown hK.1 hP hD hS 0 rfl rfl 0 (by decide) (hU _ u_1505) (fun _ h9 => h9) rfl (by decide +kernel) rfl rfl (Nat.le_of_ble_eq_true rfl) dX12_line_2 (fun H locs hP hD hS => ?_)
  have hP : va_P G vwCl [(h0, .inr (11, [.int 0, .ref a1, .int 0, .ref a2, .int 0, .int 0, .int 0, .int 0, .int (-1), .ref a3, .ref a4, .int 0, .int 0, .int 0, .ref a5, .ref a6, .int 0, .int (-1), .int 0, .int 0, .ref a7, .ref a8, .ref a9, .ref a10, .int 0, .int 0, .ref a11, .ref a12, .int 0, .int 0, .ref a13, .ref a14, .ref a15, .int 0, .int 0, .ref a16, .ref a17, .ref a18]))] H := hP
  have hD : va_D A [(h0, .inr (11, [.int 0, .ref a1, .int 0, .ref a2, .int 0, .int 0, .int 0, .int 0, .int (-1), .ref a3, .ref a4, .int 0, .int 0, .int 0, .ref a5, .ref a6, .int 0, .int (-1), .int 0, .int 0, .ref a7, .ref a8, .ref a9, .ref a10, .int 0, .int 0, .ref a11, .ref a12, .int 0, .int 0, .ref a13, .ref a14, .ref a15, .int 0, .int 0, .ref a16, .ref a17, .ref a18]))] := hD
  refine lv_aload_n hx hb dX12_line_5 rfl (lv_at hl 0 rfl) ?_
  refine lv_iload_n hx hb dX12_line_6 rfl (lv_at hl 1 rfl) ?_
  refine kt_callV (wc := [(h0, .inr (11, [.int 0, .ref a1, .int 0, .ref a2, .int 0, .int 0, .int 0, .int 0, .int (-1), .ref a3, .ref a4, .int 0, .int 0, .int 0, .ref a5, .ref a6, .int 0, .int (-1), .int 0, .int 0, .ref a7, .ref a8, .ref a9, .ref a10, .int 0, .int 0, .ref a11, .ref a12, .int 0, .int 0, .ref a13, .ref a14, .ref a15, .int 0, .int 0, .ref a16, .ref a17, .ref a18]))]) (wr := []) (As := [.int p0]) (rest := []) (c_X12_noLine l G cy h0 a1 a2 a3 a4 a5 a6 a7 a8 a9 a10 a11 a12 a13 a14 a15 a16 a17 a18 p0) m_X12_noLine u_1834 hx hb hml hown hU hl.1 hK hP hD hS hA dX12_line_7 [0] [] rfl rfl rfl rfl rfl rfl (Nat.le_of_ble_eq_true rfl) (ci := 11) rfl rfl rfl (fun v9 w9 H locs hw hP hD hS => ?_)
  obtain ⟨rfl, rfl⟩ := hw
  have hP : va_P G vwCl [(h0, .inr (11, [.int 1, .ref a1, .int 0, .ref a2, .int 0, .int 0, .int 0, .int 0, .int (-1), .ref a3, .ref a4, .int 0, .int 0, .int 0, .ref a5, .ref a6, .int 0, .int (-1), .int 0, .int 0, .ref a7, .ref a8, .ref a9, .ref a10, .int 0, .int 0, .ref a11, .ref a12, .int 0, .int 0, .ref a13, .ref a14, .ref a15, .int 0, .int 0, .ref a16, .ref a17, .ref a18]))] H := hP
  have hD : va_D A [(h0, .inr (11, [.int 1, .ref a1, .int 0, .ref a2, .int 0, .int 0, .int 0, .int 0, .int (-1), .ref a3, .ref a4, .int 0, .int 0, .int 0, .ref a5, .ref a6, .int 0, .int (-1), .int 0, .int 0, .ref a7, .ref a8, .ref a9, .ref a10, .int 0, .int 0, .ref a11, .ref a12, .int 0, .int 0, .ref a13, .ref a14, .ref a15, .int 0, .int 0, .ref a16, .ref a17, .ref a18]))] := hD
  refine W.eq (g2 := F0 m 10 ls [.int 1]) rfl ?_
  refine W.widen (k := 0) (n := 0) (Nat.le_of_ble_eq_true rfl) (Nat.le_of_ble_eq_true rfl) ?_
  refine lv_if_ne (tgt := 35) hx hb dX12_line_10 (by decide) (fun _ => ?_) (fun c9 => absurd c9 (by decide))
  refine lv_iconst (v := 0) hx hb dX12_line_35 (by decide) ?_
  exact kt_iret hx hb hr hlocks hP hD hS dX12_line_36 [0] rfl rfl rfl rfl ⟨rfl, rfl⟩
set_option maxHeartbeats 4000000 in
set_option maxRecDepth 100000 in
theorem c_X12_lits (l : Launch) (G : va_G) (cy : Nat → ClassId) (h0 : Nat) (a1 : Nat) (a2 : Nat) (a3 : Nat) (a4 : Nat) (a5 : Nat) (a6 : Nat) (a7 : Nat) (a8 : Nat) (a9 : Nat) (a10 : Nat) (a11 : Nat) (a12 : Nat) (a13 : Nat) (a14 : Nat) (a15 : Nat) (a16 : Nat) (a17 : Nat) (a18 : Nat) (p0 : Int32) (p1 : Int32) : Kt l G cy yX12_lits cX12_lits 3 (some .int) ({ frames := 14, cells := 0, slots := 0, locals := 400 } : Room) [.ref h0, .int p0, .int p1] [(h0, .inr (11, [.int 0, .ref a1, .int 0, .ref a2, .int 0, .int 0, .int 0, .int 0, .int (-1), .ref a3, .ref a4, .int 0, .int 0, .int 0, .ref a5, .ref a6, .int 0, .int (-1), .int 0, .int 0, .ref a7, .ref a8, .ref a9, .ref a10, .int 0, .int 0, .ref a11, .ref a12, .int 0, .int 0, .ref a13, .ref a14, .ref a15, .int 0, .int 0, .ref a16, .ref a17, .ref a18]))] (fun (v : Option Value) (w1 : va_W) => v = some (.int 0) ∧ w1 = [(h0, .inr (11, [.int 1, .ref a1, .int 0, .ref a2, .int 0, .int 0, .int 0, .int 0, .int (-1), .ref a3, .ref a4, .int 0, .int 0, .int 0, .ref a5, .ref a6, .int 0, .int (-1), .int 0, .int 0, .ref a7, .ref a8, .ref a9, .ref a10, .int 0, .int 0, .ref a11, .ref a12, .int 0, .int 0, .ref a13, .ref a14, .ref a15, .int 0, .int 0, .ref a16, .ref a17, .ref a18]))]) := by
  refine kt_ofW (by decide) (Nat.le_of_ble_eq_true rfl) ?_
  intro p e s m below meth c A ls hx hb hr hU hown hlocks hml hin hP hK hD hA hS hl
  have hown : s.vm.findClass RX12 = some m.cls := hown
  have hl : lv_has ls 3 [(0, .ref h0), (1, .int p0), (2, .int p1)] := hl
  refine lv_aload_n hx hb dX12_lits_0 rfl (lv_at hl 0 rfl) ?_
  refine lv_iconst (v := 0) hx hb dX12_lits_1 (by decide) ?_
  refine va_put (D := G) (ci := 11) (v := .int 0) (ty := .int) (C := RX12) (T := TX12) (N := 38) hx hb hU in_X12 tyX12 tyX12_ok nmX12 hown hK.1 hP hD hS 0 rfl rfl 0 (by decide) (hU _ u_1505) (fun _ h9 => h9) rfl (by decide +kernel) rfl rfl (Nat.le_of_ble_eq_true rfl) dX12_lits_2 (fun H locs hP hD hS => ?_)
  have hP : va_P G vwCl [(h0, .inr (11, [.int 0, .ref a1, .int 0, .ref a2, .int 0, .int 0, .int 0, .int 0, .int (-1), .ref a3, .ref a4, .int 0, .int 0, .int 0, .ref a5, .ref a6, .int 0, .int (-1), .int 0, .int 0, .ref a7, .ref a8, .ref a9, .ref a10, .int 0, .int 0, .ref a11, .ref a12, .int 0, .int 0, .ref a13, .ref a14, .ref a15, .int 0, .int 0, .ref a16, .ref a17, .ref a18]))] H := hP
  have hD : va_D A [(h0, .inr (11, [.int 0, .ref a1, .int 0, .ref a2, .int 0, .int 0, .int 0, .int 0, .int (-1), .ref a3, .ref a4, .int 0, .int 0, .int 0, .ref a5, .ref a6, .int 0, .int (-1), .int 0, .int 0, .ref a7, .ref a8, .ref a9, .ref a10, .int 0, .int 0, .ref a11, .ref a12, .int 0, .int 0, .ref a13, .ref a14, .ref a15, .int 0, .int 0, .ref a16, .ref a17, .ref a18]))] := hD
  refine lv_aload_n hx hb dX12_lits_5 rfl (lv_at hl 0 rfl) ?_
  refine lv_iload_n hx hb dX12_lits_6 rfl (lv_at hl 1 rfl) ?_
  refine kt_callV (wc := [(h0, .inr (11, [.int 0, .ref a1, .int 0, .ref a2, .int 0, .int 0, .int 0, .int 0, .int (-1), .ref a3, .ref a4, .int 0, .int 0, .int 0, .ref a5, .ref a6, .int 0, .int (-1), .int 0, .int 0, .ref a7, .ref a8, .ref a9, .ref a10, .int 0, .int 0, .ref a11, .ref a12, .int 0, .int 0, .ref a13, .ref a14, .ref a15, .int 0, .int 0, .ref a16, .ref a17, .ref a18]))]) (wr := []) (As := [.int p0]) (rest := []) (c_X12_noLine l G cy h0 a1 a2 a3 a4 a5 a6 a7 a8 a9 a10 a11 a12 a13 a14 a15 a16 a17 a18 p0) m_X12_noLine u_1834 hx hb hml hown hU hl.1 hK hP hD hS hA dX12_lits_7 [0] [] rfl rfl rfl rfl rfl rfl (Nat.le_of_ble_eq_true rfl) (ci := 11) rfl rfl rfl (fun v9 w9 H locs hw hP hD hS => ?_)
  obtain ⟨rfl, rfl⟩ := hw
  have hP : va_P G vwCl [(h0, .inr (11, [.int 1, .ref a1, .int 0, .ref a2, .int 0, .int 0, .int 0, .int 0, .int (-1), .ref a3, .ref a4, .int 0, .int 0, .int 0, .ref a5, .ref a6, .int 0, .int (-1), .int 0, .int 0, .ref a7, .ref a8, .ref a9, .ref a10, .int 0, .int 0, .ref a11, .ref a12, .int 0, .int 0, .ref a13, .ref a14, .ref a15, .int 0, .int 0, .ref a16, .ref a17, .ref a18]))] H := hP
  have hD : va_D A [(h0, .inr (11, [.int 1, .ref a1, .int 0, .ref a2, .int 0, .int 0, .int 0, .int 0, .int (-1), .ref a3, .ref a4, .int 0, .int 0, .int 0, .ref a5, .ref a6, .int 0, .int (-1), .int 0, .int 0, .ref a7, .ref a8, .ref a9, .ref a10, .int 0, .int 0, .ref a11, .ref a12, .int 0, .int 0, .ref a13, .ref a14, .ref a15, .int 0, .int 0, .ref a16, .ref a17, .ref a18]))] := hD
  refine W.eq (g2 := F0 m 10 ls [.int 1]) rfl ?_
  refine W.widen (k := 0) (n := 0) (Nat.le_of_ble_eq_true rfl) (Nat.le_of_ble_eq_true rfl) ?_
  refine lv_if_ne (tgt := 26) hx hb dX12_lits_10 (by decide) (fun _ => ?_) (fun c9 => absurd c9 (by decide))
  refine lv_iconst (v := 0) hx hb dX12_lits_26 (by decide) ?_
  exact kt_iret hx hb hr hlocks hP hD hS dX12_lits_27 [0] rfl rfl rfl rfl ⟨rfl, rfl⟩
set_option maxHeartbeats 4000000 in
set_option maxRecDepth 100000 in
theorem c_X12_plane (l : Launch) (G : va_G) (cy : Nat → ClassId) (h0 : Nat) (a1 : Nat) (a2 : Nat) (a3 : Nat) (a4 : Nat) (a5 : Nat) (a6 : Nat) (a7 : Nat) (a8 : Nat) (a9 : Nat) (a10 : Nat) (a11 : Nat) (a12 : Nat) (a13 : Nat) (a14 : Nat) (a15 : Nat) (a16 : Nat) (a17 : Nat) (a18 : Nat) (p0 : Int32) (p1 : Int32) : Kt l G cy yX12_plane cX12_plane 3 (some .int) ({ frames := 14, cells := 0, slots := 0, locals := 400 } : Room) [.ref h0, .int p0, .int p1] [(h0, .inr (11, [.int 0, .ref a1, .int 0, .ref a2, .int 0, .int 0, .int 0, .int 0, .int (-1), .ref a3, .ref a4, .int 0, .int 0, .int 0, .ref a5, .ref a6, .int 0, .int (-1), .int 0, .int 0, .ref a7, .ref a8, .ref a9, .ref a10, .int 0, .int 0, .ref a11, .ref a12, .int 0, .int 0, .ref a13, .ref a14, .ref a15, .int 0, .int 0, .ref a16, .ref a17, .ref a18]))] (fun (v : Option Value) (w1 : va_W) => v = some (.int 0) ∧ w1 = [(h0, .inr (11, [.int 1, .ref a1, .int 0, .ref a2, .int 0, .int 0, .int 0, .int 0, .int (-1), .ref a3, .ref a4, .int 0, .int 0, .int 0, .ref a5, .ref a6, .int 0, .int (-1), .int 0, .int 0, .ref a7, .ref a8, .ref a9, .ref a10, .int 0, .int 0, .ref a11, .ref a12, .int 0, .int 0, .ref a13, .ref a14, .ref a15, .int 0, .int 0, .ref a16, .ref a17, .ref a18]))]) := by
  refine kt_ofW (by decide) (Nat.le_of_ble_eq_true rfl) ?_
  intro p e s m below meth c A ls hx hb hr hU hown hlocks hml hin hP hK hD hA hS hl
  have hown : s.vm.findClass RX12 = some m.cls := hown
  have hl : lv_has ls 3 [(0, .ref h0), (1, .int p0), (2, .int p1)] := hl
  refine lv_aload_n hx hb dX12_plane_0 rfl (lv_at hl 0 rfl) ?_
  refine lv_iconst (v := 0) hx hb dX12_plane_1 (by decide) ?_
  refine va_put (D := G) (ci := 11) (v := .int 0) (ty := .int) (C := RX12) (T := TX12) (N := 38) hx hb hU in_X12 tyX12 tyX12_ok nmX12 hown hK.1 hP hD hS 0 rfl rfl 0 (by decide) (hU _ u_1505) (fun _ h9 => h9) rfl (by decide +kernel) rfl rfl (Nat.le_of_ble_eq_true rfl) dX12_plane_2 (fun H locs hP hD hS => ?_)
  have hP : va_P G vwCl [(h0, .inr (11, [.int 0, .ref a1, .int 0, .ref a2, .int 0, .int 0, .int 0, .int 0, .int (-1), .ref a3, .ref a4, .int 0, .int 0, .int 0, .ref a5, .ref a6, .int 0, .int (-1), .int 0, .int 0, .ref a7, .ref a8, .ref a9, .ref a10, .int 0, .int 0, .ref a11, .ref a12, .int 0, .int 0, .ref a13, .ref a14, .ref a15, .int 0, .int 0, .ref a16, .ref a17, .ref a18]))] H := hP
  have hD : va_D A [(h0, .inr (11, [.int 0, .ref a1, .int 0, .ref a2, .int 0, .int 0, .int 0, .int 0, .int (-1), .ref a3, .ref a4, .int 0, .int 0, .int 0, .ref a5, .ref a6, .int 0, .int (-1), .int 0, .int 0, .ref a7, .ref a8, .ref a9, .ref a10, .int 0, .int 0, .ref a11, .ref a12, .int 0, .int 0, .ref a13, .ref a14, .ref a15, .int 0, .int 0, .ref a16, .ref a17, .ref a18]))] := hD
  refine lv_aload_n hx hb dX12_plane_5 rfl (lv_at hl 0 rfl) ?_
  refine lv_iload_n hx hb dX12_plane_6 rfl (lv_at hl 1 rfl) ?_
  refine kt_callV (wc := [(h0, .inr (11, [.int 0, .ref a1, .int 0, .ref a2, .int 0, .int 0, .int 0, .int 0, .int (-1), .ref a3, .ref a4, .int 0, .int 0, .int 0, .ref a5, .ref a6, .int 0, .int (-1), .int 0, .int 0, .ref a7, .ref a8, .ref a9, .ref a10, .int 0, .int 0, .ref a11, .ref a12, .int 0, .int 0, .ref a13, .ref a14, .ref a15, .int 0, .int 0, .ref a16, .ref a17, .ref a18]))]) (wr := []) (As := [.int p0]) (rest := []) (c_X12_noLine l G cy h0 a1 a2 a3 a4 a5 a6 a7 a8 a9 a10 a11 a12 a13 a14 a15 a16 a17 a18 p0) m_X12_noLine u_1834 hx hb hml hown hU hl.1 hK hP hD hS hA dX12_plane_7 [0] [] rfl rfl rfl rfl rfl rfl (Nat.le_of_ble_eq_true rfl) (ci := 11) rfl rfl rfl (fun v9 w9 H locs hw hP hD hS => ?_)
  obtain ⟨rfl, rfl⟩ := hw
  have hP : va_P G vwCl [(h0, .inr (11, [.int 1, .ref a1, .int 0, .ref a2, .int 0, .int 0, .int 0, .int 0, .int (-1), .ref a3, .ref a4, .int 0, .int 0, .int 0, .ref a5, .ref a6, .int 0, .int (-1), .int 0, .int 0, .ref a7, .ref a8, .ref a9, .ref a10, .int 0, .int 0, .ref a11, .ref a12, .int 0, .int 0, .ref a13, .ref a14, .ref a15, .int 0, .int 0, .ref a16, .ref a17, .ref a18]))] H := hP
  have hD : va_D A [(h0, .inr (11, [.int 1, .ref a1, .int 0, .ref a2, .int 0, .int 0, .int 0, .int 0, .int (-1), .ref a3, .ref a4, .int 0, .int 0, .int 0, .ref a5, .ref a6, .int 0, .int (-1), .int 0, .int 0, .ref a7, .ref a8, .ref a9, .ref a10, .int 0, .int 0, .ref a11, .ref a12, .int 0, .int 0, .ref a13, .ref a14, .ref a15, .int 0, .int 0, .ref a16, .ref a17, .ref a18]))] := hD
  refine W.eq (g2 := F0 m 10 ls [.int 1]) rfl ?_
  refine W.widen (k := 0) (n := 0) (Nat.le_of_ble_eq_true rfl) (Nat.le_of_ble_eq_true rfl) ?_
  refine lv_if_ne (tgt := 56) hx hb dX12_plane_10 (by decide) (fun _ => ?_) (fun c9 => absurd c9 (by decide))
  refine lv_iconst (v := 0) hx hb dX12_plane_56 (by decide) ?_
  exact kt_iret hx hb hr hlocks hP hD hS dX12_plane_57 [0] rfl rfl rfl rfl ⟨rfl, rfl⟩
set_option maxHeartbeats 4000000 in
set_option maxRecDepth 100000 in
theorem c_X12_cut (l : Launch) (G : va_G) (cy : Nat → ClassId) (h0 : Nat) (a1 : Nat) (a2 : Nat) (a3 : Nat) (a4 : Nat) (a5 : Nat) (a6 : Nat) (a7 : Nat) (a8 : Nat) (a9 : Nat) (a10 : Nat) (a11 : Nat) (a12 : Nat) (a13 : Nat) (a14 : Nat) (a15 : Nat) (a16 : Nat) (a17 : Nat) (a18 : Nat) (p0 : Int32) : Kt l G cy yX12_cut cX12_cut 2 (some .int) ({ frames := 14, cells := 0, slots := 0, locals := 400 } : Room) [.ref h0, .int p0] [(h0, .inr (11, [.int 0, .ref a1, .int 0, .ref a2, .int 0, .int 0, .int 0, .int 0, .int (-1), .ref a3, .ref a4, .int 0, .int 0, .int 0, .ref a5, .ref a6, .int 0, .int (-1), .int 0, .int 0, .ref a7, .ref a8, .ref a9, .ref a10, .int 0, .int 0, .ref a11, .ref a12, .int 0, .int 0, .ref a13, .ref a14, .ref a15, .int 0, .int 0, .ref a16, .ref a17, .ref a18]))] (fun (v : Option Value) (w1 : va_W) => v = some (.int 0) ∧ w1 = [(h0, .inr (11, [.int 1, .ref a1, .int 0, .ref a2, .int 0, .int 0, .int 0, .int 0, .int (-1), .ref a3, .ref a4, .int 0, .int 0, .int 0, .ref a5, .ref a6, .int 0, .int (-1), .int 0, .int 0, .ref a7, .ref a8, .ref a9, .ref a10, .int 0, .int 0, .ref a11, .ref a12, .int 0, .int 0, .ref a13, .ref a14, .ref a15, .int 0, .int 0, .ref a16, .ref a17, .ref a18]))]) := by
  refine kt_ofW (by decide) (Nat.le_of_ble_eq_true rfl) ?_
  intro p e s m below meth c A ls hx hb hr hU hown hlocks hml hin hP hK hD hA hS hl
  have hown : s.vm.findClass RX12 = some m.cls := hown
  have hl : lv_has ls 2 [(0, .ref h0), (1, .int p0)] := hl
  refine lv_aload_n hx hb dX12_cut_0 rfl (lv_at hl 0 rfl) ?_
  refine lv_iconst (v := 0) hx hb dX12_cut_1 (by decide) ?_
  refine va_put (D := G) (ci := 11) (v := .int 0) (ty := .int) (C := RX12) (T := TX12) (N := 38) hx hb hU in_X12 tyX12 tyX12_ok nmX12 hown hK.1 hP hD hS 0 rfl rfl 0 (by decide) (hU _ u_1505) (fun _ h9 => h9) rfl (by decide +kernel) rfl rfl (Nat.le_of_ble_eq_true rfl) dX12_cut_2 (fun H locs hP hD hS => ?_)
  have hP : va_P G vwCl [(h0, .inr (11, [.int 0, .ref a1, .int 0, .ref a2, .int 0, .int 0, .int 0, .int 0, .int (-1), .ref a3, .ref a4, .int 0, .int 0, .int 0, .ref a5, .ref a6, .int 0, .int (-1), .int 0, .int 0, .ref a7, .ref a8, .ref a9, .ref a10, .int 0, .int 0, .ref a11, .ref a12, .int 0, .int 0, .ref a13, .ref a14, .ref a15, .int 0, .int 0, .ref a16, .ref a17, .ref a18]))] H := hP
  have hD : va_D A [(h0, .inr (11, [.int 0, .ref a1, .int 0, .ref a2, .int 0, .int 0, .int 0, .int 0, .int (-1), .ref a3, .ref a4, .int 0, .int 0, .int 0, .ref a5, .ref a6, .int 0, .int (-1), .int 0, .int 0, .ref a7, .ref a8, .ref a9, .ref a10, .int 0, .int 0, .ref a11, .ref a12, .int 0, .int 0, .ref a13, .ref a14, .ref a15, .int 0, .int 0, .ref a16, .ref a17, .ref a18]))] := hD
  refine lv_aload_n hx hb dX12_cut_5 rfl (lv_at hl 0 rfl) ?_
  refine lv_iload_n hx hb dX12_cut_6 rfl (lv_at hl 1 rfl) ?_
  refine kt_callV (wc := [(h0, .inr (11, [.int 0, .ref a1, .int 0, .ref a2, .int 0, .int 0, .int 0, .int 0, .int (-1), .ref a3, .ref a4, .int 0, .int 0, .int 0, .ref a5, .ref a6, .int 0, .int (-1), .int 0, .int 0, .ref a7, .ref a8, .ref a9, .ref a10, .int 0, .int 0, .ref a11, .ref a12, .int 0, .int 0, .ref a13, .ref a14, .ref a15, .int 0, .int 0, .ref a16, .ref a17, .ref a18]))]) (wr := []) (As := [.int p0]) (rest := []) (c_X12_noLine l G cy h0 a1 a2 a3 a4 a5 a6 a7 a8 a9 a10 a11 a12 a13 a14 a15 a16 a17 a18 p0) m_X12_noLine u_1834 hx hb hml hown hU hl.1 hK hP hD hS hA dX12_cut_7 [0] [] rfl rfl rfl rfl rfl rfl (Nat.le_of_ble_eq_true rfl) (ci := 11) rfl rfl rfl (fun v9 w9 H locs hw hP hD hS => ?_)
  obtain ⟨rfl, rfl⟩ := hw
  have hP : va_P G vwCl [(h0, .inr (11, [.int 1, .ref a1, .int 0, .ref a2, .int 0, .int 0, .int 0, .int 0, .int (-1), .ref a3, .ref a4, .int 0, .int 0, .int 0, .ref a5, .ref a6, .int 0, .int (-1), .int 0, .int 0, .ref a7, .ref a8, .ref a9, .ref a10, .int 0, .int 0, .ref a11, .ref a12, .int 0, .int 0, .ref a13, .ref a14, .ref a15, .int 0, .int 0, .ref a16, .ref a17, .ref a18]))] H := hP
  have hD : va_D A [(h0, .inr (11, [.int 1, .ref a1, .int 0, .ref a2, .int 0, .int 0, .int 0, .int 0, .int (-1), .ref a3, .ref a4, .int 0, .int 0, .int 0, .ref a5, .ref a6, .int 0, .int (-1), .int 0, .int 0, .ref a7, .ref a8, .ref a9, .ref a10, .int 0, .int 0, .ref a11, .ref a12, .int 0, .int 0, .ref a13, .ref a14, .ref a15, .int 0, .int 0, .ref a16, .ref a17, .ref a18]))] := hD
  refine W.eq (g2 := F0 m 10 ls [.int 1]) rfl ?_
  refine W.widen (k := 0) (n := 0) (Nat.le_of_ble_eq_true rfl) (Nat.le_of_ble_eq_true rfl) ?_
  refine lv_if_ne (tgt := 34) hx hb dX12_cut_10 (by decide) (fun _ => ?_) (fun c9 => absurd c9 (by decide))
  refine lv_iconst (v := 0) hx hb dX12_cut_34 (by decide) ?_
  exact kt_iret hx hb hr hlocks hP hD hS dX12_cut_35 [0] rfl rfl rfl rfl ⟨rfl, rfl⟩
set_option maxHeartbeats 4000000 in
set_option maxRecDepth 100000 in
theorem c_X12_holds (l : Launch) (G : va_G) (cy : Nat → ClassId) (h0 : Nat) (a1 : Nat) (a2 : Nat) (a3 : Nat) (a4 : Nat) (a5 : Nat) (a6 : Nat) (a7 : Nat) (a8 : Nat) (a9 : Nat) (a10 : Nat) (a11 : Nat) (a12 : Nat) (a13 : Nat) (a14 : Nat) (a15 : Nat) (a16 : Nat) (a17 : Nat) (a18 : Nat) (p0 : Int32) (p1 : Int32) : Kt l G cy yX12_holds cX12_holds 3 (some .boolean) ({ frames := 14, cells := 0, slots := 0, locals := 400 } : Room) [.ref h0, .int p0, .int p1] [(h0, .inr (11, [.int 0, .ref a1, .int 0, .ref a2, .int 0, .int 0, .int 0, .int 0, .int (-1), .ref a3, .ref a4, .int 0, .int 0, .int 0, .ref a5, .ref a6, .int 0, .int (-1), .int 0, .int 0, .ref a7, .ref a8, .ref a9, .ref a10, .int 0, .int 0, .ref a11, .ref a12, .int 0, .int 0, .ref a13, .ref a14, .ref a15, .int 0, .int 0, .ref a16, .ref a17, .ref a18]))] (fun (v : Option Value) (w1 : va_W) => v = some (.int 0) ∧ w1 = [(h0, .inr (11, [.int 1, .ref a1, .int 0, .ref a2, .int 0, .int 0, .int 0, .int 0, .int (-1), .ref a3, .ref a4, .int 0, .int 0, .int 0, .ref a5, .ref a6, .int 0, .int (-1), .int 0, .int 0, .ref a7, .ref a8, .ref a9, .ref a10, .int 0, .int 0, .ref a11, .ref a12, .int 0, .int 0, .ref a13, .ref a14, .ref a15, .int 0, .int 0, .ref a16, .ref a17, .ref a18]))]) := by
  refine kt_ofW (by decide) (Nat.le_of_ble_eq_true rfl) ?_
  intro p e s m below meth c A ls hx hb hr hU hown hlocks hml hin hP hK hD hA hS hl
  have hown : s.vm.findClass RX12 = some m.cls := hown
  have hl : lv_has ls 3 [(0, .ref h0), (1, .int p0), (2, .int p1)] := hl
  refine lv_aload_n hx hb dX12_holds_0 rfl (lv_at hl 0 rfl) ?_
  refine lv_iconst (v := 0) hx hb dX12_holds_1 (by decide) ?_
  refine va_put (D := G) (ci := 11) (v := .int 0) (ty := .int) (C := RX12) (T := TX12) (N := 38) hx hb hU in_X12 tyX12 tyX12_ok nmX12 hown hK.1 hP hD hS 0 rfl rfl 0 (by decide) (hU _ u_1505) (fun _ h9 => h9) rfl (by decide +kernel) rfl rfl (Nat.le_of_ble_eq_true rfl) dX12_holds_2 (fun H locs hP hD hS => ?_)
  have hP : va_P G vwCl [(h0, .inr (11, [.int 0, .ref a1, .int 0, .ref a2, .int 0, .int 0, .int 0, .int 0, .int (-1), .ref a3, .ref a4, .int 0, .int 0, .int 0, .ref a5, .ref a6, .int 0, .int (-1), .int 0, .int 0, .ref a7, .ref a8, .ref a9, .ref a10, .int 0, .int 0, .ref a11, .ref a12, .int 0, .int 0, .ref a13, .ref a14, .ref a15, .int 0, .int 0, .ref a16, .ref a17, .ref a18]))] H := hP
  have hD : va_D A [(h0, .inr (11, [.int 0, .ref a1, .int 0, .ref a2, .int 0, .int 0, .int 0, .int 0, .int (-1), .ref a3, .ref a4, .int 0, .int 0, .int 0, .ref a5, .ref a6, .int 0, .int (-1), .int 0, .int 0, .ref a7, .ref a8, .ref a9, .ref a10, .int 0, .int 0, .ref a11, .ref a12, .int 0, .int 0, .ref a13, .ref a14, .ref a15, .int 0, .int 0, .ref a16, .ref a17, .ref a18]))] := hD
  refine lv_aload_n hx hb dX12_holds_5 rfl (lv_at hl 0 rfl) ?_
  refine lv_iload_n hx hb dX12_holds_6 rfl (lv_at hl 1 rfl) ?_
  refine kt_callV (wc := [(h0, .inr (11, [.int 0, .ref a1, .int 0, .ref a2, .int 0, .int 0, .int 0, .int 0, .int (-1), .ref a3, .ref a4, .int 0, .int 0, .int 0, .ref a5, .ref a6, .int 0, .int (-1), .int 0, .int 0, .ref a7, .ref a8, .ref a9, .ref a10, .int 0, .int 0, .ref a11, .ref a12, .int 0, .int 0, .ref a13, .ref a14, .ref a15, .int 0, .int 0, .ref a16, .ref a17, .ref a18]))]) (wr := []) (As := [.int p0]) (rest := []) (c_X12_noLine l G cy h0 a1 a2 a3 a4 a5 a6 a7 a8 a9 a10 a11 a12 a13 a14 a15 a16 a17 a18 p0) m_X12_noLine u_1834 hx hb hml hown hU hl.1 hK hP hD hS hA dX12_holds_7 [0] [] rfl rfl rfl rfl rfl rfl (Nat.le_of_ble_eq_true rfl) (ci := 11) rfl rfl rfl (fun v9 w9 H locs hw hP hD hS => ?_)
  obtain ⟨rfl, rfl⟩ := hw
  have hP : va_P G vwCl [(h0, .inr (11, [.int 1, .ref a1, .int 0, .ref a2, .int 0, .int 0, .int 0, .int 0, .int (-1), .ref a3, .ref a4, .int 0, .int 0, .int 0, .ref a5, .ref a6, .int 0, .int (-1), .int 0, .int 0, .ref a7, .ref a8, .ref a9, .ref a10, .int 0, .int 0, .ref a11, .ref a12, .int 0, .int 0, .ref a13, .ref a14, .ref a15, .int 0, .int 0, .ref a16, .ref a17, .ref a18]))] H := hP
  have hD : va_D A [(h0, .inr (11, [.int 1, .ref a1, .int 0, .ref a2, .int 0, .int 0, .int 0, .int 0, .int (-1), .ref a3, .ref a4, .int 0, .int 0, .int 0, .ref a5, .ref a6, .int 0, .int (-1), .int 0, .int 0, .ref a7, .ref a8, .ref a9, .ref a10, .int 0, .int 0, .ref a11, .ref a12, .int 0, .int 0, .ref a13, .ref a14, .ref a15, .int 0, .int 0, .ref a16, .ref a17, .ref a18]))] := hD
  refine W.eq (g2 := F0 m 10 ls [.int 1]) rfl ?_
  refine W.widen (k := 0) (n := 0) (Nat.le_of_ble_eq_true rfl) (Nat.le_of_ble_eq_true rfl) ?_
  refine lv_if_ne (tgt := 37) hx hb dX12_holds_10 (by decide) (fun _ => ?_) (fun c9 => absurd c9 (by decide))
  refine lv_iconst (v := 0) hx hb dX12_holds_37 (by decide) ?_
  exact kt_zret hx hb hr hlocks hP hD hS (by first | rfl | decide | exact rfl) dX12_holds_38 [0] rfl rfl rfl rfl ⟨rfl, rfl⟩
set_option maxHeartbeats 4000000 in
set_option maxRecDepth 100000 in
theorem c_X12_often (l : Launch) (G : va_G) (cy : Nat → ClassId) (h0 : Nat) (a1 : Nat) (a2 : Nat) (a3 : Nat) (a4 : Nat) (a5 : Nat) (a6 : Nat) (a7 : Nat) (a8 : Nat) (a9 : Nat) (a10 : Nat) (a11 : Nat) (a12 : Nat) (a13 : Nat) (a14 : Nat) (a15 : Nat) (a16 : Nat) (a17 : Nat) (a18 : Nat) (p0 : Int32) : Kt l G cy yX12_often cX12_often 2 (some .int) ({ frames := 14, cells := 0, slots := 0, locals := 400 } : Room) [.ref h0, .int p0] [(h0, .inr (11, [.int 0, .ref a1, .int 0, .ref a2, .int 0, .int 0, .int 0, .int 0, .int (-1), .ref a3, .ref a4, .int 0, .int 0, .int 0, .ref a5, .ref a6, .int 0, .int (-1), .int 0, .int 0, .ref a7, .ref a8, .ref a9, .ref a10, .int 0, .int 0, .ref a11, .ref a12, .int 0, .int 0, .ref a13, .ref a14, .ref a15, .int 0, .int 0, .ref a16, .ref a17, .ref a18]))] (fun (v : Option Value) (w1 : va_W) => v = some (.int 0) ∧ w1 = [(h0, .inr (11, [.int 1, .ref a1, .int 0, .ref a2, .int 0, .int 0, .int 0, .int 0, .int (-1), .ref a3, .ref a4, .int 0, .int 0, .int 0, .ref a5, .ref a6, .int 0, .int (-1), .int 0, .int 0, .ref a7, .ref a8, .ref a9, .ref a10, .int 0, .int 0, .ref a11, .ref a12, .int 0, .int 0, .ref a13, .ref a14, .ref a15, .int 0, .int 0, .ref a16, .ref a17, .ref a18]))]) := by
  refine kt_ofW (by decide) (Nat.le_of_ble_eq_true rfl) ?_
  intro p e s m below meth c A ls hx hb hr hU hown hlocks hml hin hP hK hD hA hS hl
  have hown : s.vm.findClass RX12 = some m.cls := hown
  have hl : lv_has ls 2 [(0, .ref h0), (1, .int p0)] := hl
  refine lv_aload_n hx hb dX12_often_0 rfl (lv_at hl 0 rfl) ?_
  refine lv_iconst (v := 0) hx hb dX12_often_1 (by decide) ?_
  refine va_put (D := G) (ci := 11) (v := .int 0) (ty := .int) (C := RX12) (T := TX12) (N := 38) hx hb hU in_X12 tyX12 tyX12_ok nmX12 hown hK.1 hP hD hS 0 rfl rfl 0 (by decide) (hU _ u_1505) (fun _ h9 => h9) rfl (by decide +kernel) rfl rfl (Nat.le_of_ble_eq_true rfl) dX12_often_2 (fun H locs hP hD hS => ?_)
  have hP : va_P G vwCl [(h0, .inr (11, [.int 0, .ref a1, .int 0, .ref a2, .int 0, .int 0, .int 0, .int 0, .int (-1), .ref a3, .ref a4, .int 0, .int 0, .int 0, .ref a5, .ref a6, .int 0, .int (-1), .int 0, .int 0, .ref a7, .ref a8, .ref a9, .ref a10, .int 0, .int 0, .ref a11, .ref a12, .int 0, .int 0, .ref a13, .ref a14, .ref a15, .int 0, .int 0, .ref a16, .ref a17, .ref a18]))] H := hP
  have hD : va_D A [(h0, .inr (11, [.int 0, .ref a1, .int 0, .ref a2, .int 0, .int 0, .int 0, .int 0, .int (-1), .ref a3, .ref a4, .int 0, .int 0, .int 0, .ref a5, .ref a6, .int 0, .int (-1), .int 0, .int 0, .ref a7, .ref a8, .ref a9, .ref a10, .int 0, .int 0, .ref a11, .ref a12, .int 0, .int 0, .ref a13, .ref a14, .ref a15, .int 0, .int 0, .ref a16, .ref a17, .ref a18]))] := hD
  refine lv_aload_n hx hb dX12_often_5 rfl (lv_at hl 0 rfl) ?_
  refine lv_iload_n hx hb dX12_often_6 rfl (lv_at hl 1 rfl) ?_
  refine kt_callV (wc := [(h0, .inr (11, [.int 0, .ref a1, .int 0, .ref a2, .int 0, .int 0, .int 0, .int 0, .int (-1), .ref a3, .ref a4, .int 0, .int 0, .int 0, .ref a5, .ref a6, .int 0, .int (-1), .int 0, .int 0, .ref a7, .ref a8, .ref a9, .ref a10, .int 0, .int 0, .ref a11, .ref a12, .int 0, .int 0, .ref a13, .ref a14, .ref a15, .int 0, .int 0, .ref a16, .ref a17, .ref a18]))]) (wr := []) (As := [.int p0]) (rest := []) (c_X12_noLine l G cy h0 a1 a2 a3 a4 a5 a6 a7 a8 a9 a10 a11 a12 a13 a14 a15 a16 a17 a18 p0) m_X12_noLine u_1834 hx hb hml hown hU hl.1 hK hP hD hS hA dX12_often_7 [0] [] rfl rfl rfl rfl rfl rfl (Nat.le_of_ble_eq_true rfl) (ci := 11) rfl rfl rfl (fun v9 w9 H locs hw hP hD hS => ?_)
  obtain ⟨rfl, rfl⟩ := hw
  have hP : va_P G vwCl [(h0, .inr (11, [.int 1, .ref a1, .int 0, .ref a2, .int 0, .int 0, .int 0, .int 0, .int (-1), .ref a3, .ref a4, .int 0, .int 0, .int 0, .ref a5, .ref a6, .int 0, .int (-1), .int 0, .int 0, .ref a7, .ref a8, .ref a9, .ref a10, .int 0, .int 0, .ref a11, .ref a12, .int 0, .int 0, .ref a13, .ref a14, .ref a15, .int 0, .int 0, .ref a16, .ref a17, .ref a18]))] H := hP
  have hD : va_D A [(h0, .inr (11, [.int 1, .ref a1, .int 0, .ref a2, .int 0, .int 0, .int 0, .int 0, .int (-1), .ref a3, .ref a4, .int 0, .int 0, .int 0, .ref a5, .ref a6, .int 0, .int (-1), .int 0, .int 0, .ref a7, .ref a8, .ref a9, .ref a10, .int 0, .int 0, .ref a11, .ref a12, .int 0, .int 0, .ref a13, .ref a14, .ref a15, .int 0, .int 0, .ref a16, .ref a17, .ref a18]))] := hD
  refine W.eq (g2 := F0 m 10 ls [.int 1]) rfl ?_
  refine W.widen (k := 0) (n := 0) (Nat.le_of_ble_eq_true rfl) (Nat.le_of_ble_eq_true rfl) ?_
  refine lv_if_eq (tgt := 17) hx hb dX12_often_10 (by decide) (fun c9 => absurd c9 (by decide)) (fun _ => ?_)
  refine lv_iconst (v := 0) hx hb dX12_often_13 (by decide) ?_
  refine lv_goto (tgt := 25) hx hb dX12_often_14 (by decide) ?_
  exact kt_iret hx hb hr hlocks hP hD hS dX12_often_25 [0] rfl rfl rfl rfl ⟨rfl, rfl⟩
set_option maxHeartbeats 4000000 in
set_option maxRecDepth 100000 in
theorem c_X12_measure (l : Launch) (G : va_G) (cy : Nat → ClassId) (h0 : Nat) (a1 : Nat) (a2 : Nat) (a3 : Nat) (a4 : Nat) (a5 : Nat) (a6 : Nat) (a7 : Nat) (a8 : Nat) (a9 : Nat) (a10 : Nat) (a11 : Nat) (a12 : Nat) (a13 : Nat) (a14 : Nat) (a15 : Nat) (a16 : Nat) (a17 : Nat) (a18 : Nat) (p0 : Int32) (p1 : Int32) : Kt l G cy yX12_measure cX12_measure 5 (some .int) ({ frames := 14, cells := 0, slots := 0, locals := 400 } : Room) [.ref h0, .int p0, .int p1] [(h0, .inr (11, [.int 0, .ref a1, .int 0, .ref a2, .int 0, .int 0, .int 0, .int 0, .int (-1), .ref a3, .ref a4, .int 0, .int 0, .int 0, .ref a5, .ref a6, .int 0, .int (-1), .int 0, .int 0, .ref a7, .ref a8, .ref a9, .ref a10, .int 0, .int 0, .ref a11, .ref a12, .int 0, .int 0, .ref a13, .ref a14, .ref a15, .int 0, .int 0, .ref a16, .ref a17, .ref a18]))] (fun (v : Option Value) (w1 : va_W) => v = some (.int 0) ∧ w1 = [(h0, .inr (11, [.int 1, .ref a1, .int 0, .ref a2, .int 0, .int 0, .int 0, .int 0, .int (-1), .ref a3, .ref a4, .int 0, .int 0, .int 0, .ref a5, .ref a6, .int 0, .int (-1), .int 0, .int 0, .ref a7, .ref a8, .ref a9, .ref a10, .int 0, .int 0, .ref a11, .ref a12, .int 0, .int 0, .ref a13, .ref a14, .ref a15, .int 0, .int 0, .ref a16, .ref a17, .ref a18]))]) := by
  refine kt_ofW (by decide) (Nat.le_of_ble_eq_true rfl) ?_
  intro p e s m below meth c A ls hx hb hr hU hown hlocks hml hin hP hK hD hA hS hl
  have hown : s.vm.findClass RX12 = some m.cls := hown
  have hl : lv_has ls 5 [(0, .ref h0), (1, .int p0), (2, .int p1)] := hl
  refine lv_aload_n hx hb dX12_measure_0 rfl (lv_at hl 0 rfl) ?_
  refine lv_iconst (v := 0) hx hb dX12_measure_1 (by decide) ?_
  refine va_put (D := G) (ci := 11) (v := .int 0) (ty := .int) (C := RX12) (T := TX12) (N := 38) hx hb hU in_X12 tyX12 tyX12_ok nmX12 hown hK.1 hP hD hS 0 rfl rfl 0 (by decide) (hU _ u_1505) (fun _ h9 => h9) rfl (by decide +kernel) rfl rfl (Nat.le_of_ble_eq_true rfl) dX12_measure_2 (fun H locs hP hD hS => ?_)
  have hP : va_P G vwCl [(h0, .inr (11, [.int 0, .ref a1, .int 0, .ref a2, .int 0, .int 0, .int 0, .int 0, .int (-1), .ref a3, .ref a4, .int 0, .int 0, .int 0, .ref a5, .ref a6, .int 0, .int (-1), .int 0, .int 0, .ref a7, .ref a8, .ref a9, .ref a10, .int 0, .int 0, .ref a11, .ref a12, .int 0, .int 0, .ref a13, .ref a14, .ref a15, .int 0, .int 0, .ref a16, .ref a17, .ref a18]))] H := hP
  have hD : va_D A [(h0, .inr (11, [.int 0, .ref a1, .int 0, .ref a2, .int 0, .int 0, .int 0, .int 0, .int (-1), .ref a3, .ref a4, .int 0, .int 0, .int 0, .ref a5, .ref a6, .int 0, .int (-1), .int 0, .int 0, .ref a7, .ref a8, .ref a9, .ref a10, .int 0, .int 0, .ref a11, .ref a12, .int 0, .int 0, .ref a13, .ref a14, .ref a15, .int 0, .int 0, .ref a16, .ref a17, .ref a18]))] := hD
  refine lv_aload_n hx hb dX12_measure_5 rfl (lv_at hl 0 rfl) ?_
  refine lv_iload_n hx hb dX12_measure_6 rfl (lv_at hl 1 rfl) ?_
  refine kt_callV (wc := [(h0, .inr (11, [.int 0, .ref a1, .int 0, .ref a2, .int 0, .int 0, .int 0, .int 0, .int (-1), .ref a3, .ref a4, .int 0, .int 0, .int 0, .ref a5, .ref a6, .int 0, .int (-1), .int 0, .int 0, .ref a7, .ref a8, .ref a9, .ref a10, .int 0, .int 0, .ref a11, .ref a12, .int 0, .int 0, .ref a13, .ref a14, .ref a15, .int 0, .int 0, .ref a16, .ref a17, .ref a18]))]) (wr := []) (As := [.int p0]) (rest := []) (c_X12_noLine l G cy h0 a1 a2 a3 a4 a5 a6 a7 a8 a9 a10 a11 a12 a13 a14 a15 a16 a17 a18 p0) m_X12_noLine u_1834 hx hb hml hown hU hl.1 hK hP hD hS hA dX12_measure_7 [0] [] rfl rfl rfl rfl rfl rfl (Nat.le_of_ble_eq_true rfl) (ci := 11) rfl rfl rfl (fun v9 w9 H locs hw hP hD hS => ?_)
  obtain ⟨rfl, rfl⟩ := hw
  have hP : va_P G vwCl [(h0, .inr (11, [.int 1, .ref a1, .int 0, .ref a2, .int 0, .int 0, .int 0, .int 0, .int (-1), .ref a3, .ref a4, .int 0, .int 0, .int 0, .ref a5, .ref a6, .int 0, .int (-1), .int 0, .int 0, .ref a7, .ref a8, .ref a9, .ref a10, .int 0, .int 0, .ref a11, .ref a12, .int 0, .int 0, .ref a13, .ref a14, .ref a15, .int 0, .int 0, .ref a16, .ref a17, .ref a18]))] H := hP
  have hD : va_D A [(h0, .inr (11, [.int 1, .ref a1, .int 0, .ref a2, .int 0, .int 0, .int 0, .int 0, .int (-1), .ref a3, .ref a4, .int 0, .int 0, .int 0, .ref a5, .ref a6, .int 0, .int (-1), .int 0, .int 0, .ref a7, .ref a8, .ref a9, .ref a10, .int 0, .int 0, .ref a11, .ref a12, .int 0, .int 0, .ref a13, .ref a14, .ref a15, .int 0, .int 0, .ref a16, .ref a17, .ref a18]))] := hD
  refine W.eq (g2 := F0 m 10 ls [.int 1]) rfl ?_
  refine W.widen (k := 0) (n := 0) (Nat.le_of_ble_eq_true rfl) (Nat.le_of_ble_eq_true rfl) ?_
  refine lv_if_ne (tgt := 35) hx hb dX12_measure_10 (by decide) (fun _ => ?_) (fun c9 => absurd c9 (by decide))
  refine lv_iconst (v := 0) hx hb dX12_measure_35 (by decide) ?_
  exact kt_iret hx hb hr hlocks hP hD hS dX12_measure_36 [0] rfl rfl rfl rfl ⟨rfl, rfl⟩
set_option maxHeartbeats 4000000 in
set_option maxRecDepth 100000 in
theorem c_X12_tree (l : Launch) (G : va_G) (cy : Nat → ClassId) (h0 : Nat) (a1 : Nat) (a2 : Nat) (a3 : Nat) (a4 : Nat) (a5 : Nat) (a6 : Nat) (a7 : Nat) (a8 : Nat) (a9 : Nat) (a10 : Nat) (a11 : Nat) (a12 : Nat) (a13 : Nat) (a14 : Nat) (a15 : Nat) (a16 : Nat) (a17 : Nat) (a18 : Nat) (p0 : Int32) : Kt l G cy yX12_tree cX12_tree 4 (some .long) ({ frames := 14, cells := 0, slots := 0, locals := 400 } : Room) [.ref h0, .int p0] [(h0, .inr (11, [.int 0, .ref a1, .int 0, .ref a2, .int 0, .int 0, .int 0, .int 0, .int (-1), .ref a3, .ref a4, .int 0, .int 0, .int 0, .ref a5, .ref a6, .int 0, .int (-1), .int 0, .int 0, .ref a7, .ref a8, .ref a9, .ref a10, .int 0, .int 0, .ref a11, .ref a12, .int 0, .int 0, .ref a13, .ref a14, .ref a15, .int 0, .int 0, .ref a16, .ref a17, .ref a18]))] (fun (v : Option Value) (w1 : va_W) => v = some (.long 0) ∧ w1 = [(h0, .inr (11, [.int 1, .ref a1, .int 0, .ref a2, .int 0, .int 0, .int 0, .int 0, .int (-1), .ref a3, .ref a4, .int 0, .int 0, .int 0, .ref a5, .ref a6, .int 0, .int (-1), .int 0, .int 0, .ref a7, .ref a8, .ref a9, .ref a10, .int 0, .int 0, .ref a11, .ref a12, .int 0, .int 0, .ref a13, .ref a14, .ref a15, .int 0, .int 0, .ref a16, .ref a17, .ref a18]))]) := by
  refine kt_ofW (by decide) (Nat.le_of_ble_eq_true rfl) ?_
  intro p e s m below meth c A ls hx hb hr hU hown hlocks hml hin hP hK hD hA hS hl
  have hown : s.vm.findClass RX12 = some m.cls := hown
  have hl : lv_has ls 4 [(0, .ref h0), (1, .int p0)] := hl
  refine lv_aload_n hx hb dX12_tree_0 rfl (lv_at hl 0 rfl) ?_
  refine lv_iconst (v := 0) hx hb dX12_tree_1 (by decide) ?_
  refine va_put (D := G) (ci := 11) (v := .int 0) (ty := .int) (C := RX12) (T := TX12) (N := 38) hx hb hU in_X12 tyX12 tyX12_ok nmX12 hown hK.1 hP hD hS 0 rfl rfl 0 (by decide) (hU _ u_1505) (fun _ h9 => h9) rfl (by decide +kernel) rfl rfl (Nat.le_of_ble_eq_true rfl) dX12_tree_2 (fun H locs hP hD hS => ?_)
  have hP : va_P G vwCl [(h0, .inr (11, [.int 0, .ref a1, .int 0, .ref a2, .int 0, .int 0, .int 0, .int 0, .int (-1), .ref a3, .ref a4, .int 0, .int 0, .int 0, .ref a5, .ref a6, .int 0, .int (-1), .int 0, .int 0, .ref a7, .ref a8, .ref a9, .ref a10, .int 0, .int 0, .ref a11, .ref a12, .int 0, .int 0, .ref a13, .ref a14, .ref a15, .int 0, .int 0, .ref a16, .ref a17, .ref a18]))] H := hP
  have hD : va_D A [(h0, .inr (11, [.int 0, .ref a1, .int 0, .ref a2, .int 0, .int 0, .int 0, .int 0, .int (-1), .ref a3, .ref a4, .int 0, .int 0, .int 0, .ref a5, .ref a6, .int 0, .int (-1), .int 0, .int 0, .ref a7, .ref a8, .ref a9, .ref a10, .int 0, .int 0, .ref a11, .ref a12, .int 0, .int 0, .ref a13, .ref a14, .ref a15, .int 0, .int 0, .ref a16, .ref a17, .ref a18]))] := hD
  refine lv_aload_n hx hb dX12_tree_5 rfl (lv_at hl 0 rfl) ?_
  refine lv_iload_n hx hb dX12_tree_6 rfl (lv_at hl 1 rfl) ?_
  refine kt_callV (wc := [(h0, .inr (11, [.int 0, .ref a1, .int 0, .ref a2, .int 0, .int 0, .int 0, .int 0, .int (-1), .ref a3, .ref a4, .int 0, .int 0, .int 0, .ref a5, .ref a6, .int 0, .int (-1), .int 0, .int 0, .ref a7, .ref a8, .ref a9, .ref a10, .int 0, .int 0, .ref a11, .ref a12, .int 0, .int 0, .ref a13, .ref a14, .ref a15, .int 0, .int 0, .ref a16, .ref a17, .ref a18]))]) (wr := []) (As := [.int p0]) (rest := []) (c_X12_noLine l G cy h0 a1 a2 a3 a4 a5 a6 a7 a8 a9 a10 a11 a12 a13 a14 a15 a16 a17 a18 p0) m_X12_noLine u_1834 hx hb hml hown hU hl.1 hK hP hD hS hA dX12_tree_7 [0] [] rfl rfl rfl rfl rfl rfl (Nat.le_of_ble_eq_true rfl) (ci := 11) rfl rfl rfl (fun v9 w9 H locs hw hP hD hS => ?_)
  obtain ⟨rfl, rfl⟩ := hw
  have hP : va_P G vwCl [(h0, .inr (11, [.int 1, .ref a1, .int 0, .ref a2, .int 0, .int 0, .int 0, .int 0, .int (-1), .ref a3, .ref a4, .int 0, .int 0, .int 0, .ref a5, .ref a6, .int 0, .int (-1), .int 0, .int 0, .ref a7, .ref a8, .ref a9, .ref a10, .int 0, .int 0, .ref a11, .ref a12, .int 0, .int 0, .ref a13, .ref a14, .ref a15, .int 0, .int 0, .ref a16, .ref a17, .ref a18]))] H := hP
  have hD : va_D A [(h0, .inr (11, [.int 1, .ref a1, .int 0, .ref a2, .int 0, .int 0, .int 0, .int 0, .int (-1), .ref a3, .ref a4, .int 0, .int 0, .int 0, .ref a5, .ref a6, .int 0, .int (-1), .int 0, .int 0, .ref a7, .ref a8, .ref a9, .ref a10, .int 0, .int 0, .ref a11, .ref a12, .int 0, .int 0, .ref a13, .ref a14, .ref a15, .int 0, .int 0, .ref a16, .ref a17, .ref a18]))] := hD
  refine W.eq (g2 := F0 m 10 ls [.int 1]) rfl ?_
  refine W.widen (k := 0) (n := 0) (Nat.le_of_ble_eq_true rfl) (Nat.le_of_ble_eq_true rfl) ?_
  refine lv_if_eq (tgt := 15) hx hb dX12_tree_10 (by decide) (fun c9 => absurd c9 (by decide)) (fun _ => ?_)
  refine lv_lconst (v := 0) hx hb dX12_tree_13 (by decide) ?_
  exact kt_lret hx hb hr hlocks hP hD hS dX12_tree_14 [0] rfl rfl rfl rfl ⟨rfl, rfl⟩
set_option maxHeartbeats 4000000 in
set_option maxRecDepth 100000 in
theorem c_X12_needs (l : Launch) (G : va_G) (cy : Nat → ClassId) (h0 : Nat) (a1 : Nat) (a2 : Nat) (a3 : Nat) (a4 : Nat) (a5 : Nat) (a6 : Nat) (a7 : Nat) (a8 : Nat) (a9 : Nat) (a10 : Nat) (a11 : Nat) (a12 : Nat) (a13 : Nat) (a14 : Nat) (a15 : Nat) (a16 : Nat) (a17 : Nat) (a18 : Nat) (p0 : Int32) (p1 : Int32) : Kt l G cy yX12_needs cX12_needs 3 (some .boolean) ({ frames := 14, cells := 0, slots := 0, locals := 400 } : Room) [.ref h0, .int p0, .int p1] [(h0, .inr (11, [.int 0, .ref a1, .int 0, .ref a2, .int 0, .int 0, .int 0, .int 0, .int (-1), .ref a3, .ref a4, .int 0, .int 0, .int 0, .ref a5, .ref a6, .int 0, .int (-1), .int 0, .int 0, .ref a7, .ref a8, .ref a9, .ref a10, .int 0, .int 0, .ref a11, .ref a12, .int 0, .int 0, .ref a13, .ref a14, .ref a15, .int 0, .int 0, .ref a16, .ref a17, .ref a18]))] (fun (v : Option Value) (w1 : va_W) => v = some (.int 0) ∧ w1 = [(h0, .inr (11, [.int 1, .ref a1, .int 0, .ref a2, .int 0, .int 0, .int 0, .int 0, .int (-1), .ref a3, .ref a4, .int 0, .int 0, .int 0, .ref a5, .ref a6, .int 0, .int (-1), .int 0, .int 0, .ref a7, .ref a8, .ref a9, .ref a10, .int 0, .int 0, .ref a11, .ref a12, .int 0, .int 0, .ref a13, .ref a14, .ref a15, .int 0, .int 0, .ref a16, .ref a17, .ref a18]))]) := by
  refine kt_ofW (by decide) (Nat.le_of_ble_eq_true rfl) ?_
  intro p e s m below meth c A ls hx hb hr hU hown hlocks hml hin hP hK hD hA hS hl
  have hown : s.vm.findClass RX12 = some m.cls := hown
  have hl : lv_has ls 3 [(0, .ref h0), (1, .int p0), (2, .int p1)] := hl
  refine lv_aload_n hx hb dX12_needs_0 rfl (lv_at hl 0 rfl) ?_
  refine lv_iconst (v := 0) hx hb dX12_needs_1 (by decide) ?_
  refine va_put (D := G) (ci := 11) (v := .int 0) (ty := .int) (C := RX12) (T := TX12) (N := 38) hx hb hU in_X12 tyX12 tyX12_ok nmX12 hown hK.1 hP hD hS 0 rfl rfl 0 (by decide) (hU _ u_1505) (fun _ h9 => h9) rfl (by decide +kernel) rfl rfl (Nat.le_of_ble_eq_true rfl) dX12_needs_2 (fun H locs hP hD hS => ?_)
  have hP : va_P G vwCl [(h0, .inr (11, [.int 0, .ref a1, .int 0, .ref a2, .int 0, .int 0, .int 0, .int 0, .int (-1), .ref a3, .ref a4, .int 0, .int 0, .int 0, .ref a5, .ref a6, .int 0, .int (-1), .int 0, .int 0, .ref a7, .ref a8, .ref a9, .ref a10, .int 0, .int 0, .ref a11, .ref a12, .int 0, .int 0, .ref a13, .ref a14, .ref a15, .int 0, .int 0, .ref a16, .ref a17, .ref a18]))] H := hP
  have hD : va_D A [(h0, .inr (11, [.int 0, .ref a1, .int 0, .ref a2, .int 0, .int 0, .int 0, .int 0, .int (-1), .ref a3, .ref a4, .int 0, .int 0, .int 0, .ref a5, .ref a6, .int 0, .int (-1), .int 0, .int 0, .ref a7, .ref a8, .ref a9, .ref a10, .int 0, .int 0, .ref a11, .ref a12, .int 0, .int 0, .ref a13, .ref a14, .ref a15, .int 0, .int 0, .ref a16, .ref a17, .ref a18]))] := hD
  refine lv_aload_n hx hb dX12_needs_5 rfl (lv_at hl 0 rfl) ?_
  refine lv_iload_n hx hb dX12_needs_6 rfl (lv_at hl 1 rfl) ?_
  refine kt_callV (wc := [(h0, .inr (11, [.int 0, .ref a1, .int 0, .ref a2, .int 0, .int 0, .int 0, .int 0, .int (-1), .ref a3, .ref a4, .int 0, .int 0, .int 0, .ref a5, .ref a6, .int 0, .int (-1), .int 0, .int 0, .ref a7, .ref a8, .ref a9, .ref a10, .int 0, .int 0, .ref a11, .ref a12, .int 0, .int 0, .ref a13, .ref a14, .ref a15, .int 0, .int 0, .ref a16, .ref a17, .ref a18]))]) (wr := []) (As := [.int p0]) (rest := []) (c_X12_noLine l G cy h0 a1 a2 a3 a4 a5 a6 a7 a8 a9 a10 a11 a12 a13 a14 a15 a16 a17 a18 p0) m_X12_noLine u_1834 hx hb hml hown hU hl.1 hK hP hD hS hA dX12_needs_7 [0] [] rfl rfl rfl rfl rfl rfl (Nat.le_of_ble_eq_true rfl) (ci := 11) rfl rfl rfl (fun v9 w9 H locs hw hP hD hS => ?_)
  obtain ⟨rfl, rfl⟩ := hw
  have hP : va_P G vwCl [(h0, .inr (11, [.int 1, .ref a1, .int 0, .ref a2, .int 0, .int 0, .int 0, .int 0, .int (-1), .ref a3, .ref a4, .int 0, .int 0, .int 0, .ref a5, .ref a6, .int 0, .int (-1), .int 0, .int 0, .ref a7, .ref a8, .ref a9, .ref a10, .int 0, .int 0, .ref a11, .ref a12, .int 0, .int 0, .ref a13, .ref a14, .ref a15, .int 0, .int 0, .ref a16, .ref a17, .ref a18]))] H := hP
  have hD : va_D A [(h0, .inr (11, [.int 1, .ref a1, .int 0, .ref a2, .int 0, .int 0, .int 0, .int 0, .int (-1), .ref a3, .ref a4, .int 0, .int 0, .int 0, .ref a5, .ref a6, .int 0, .int (-1), .int 0, .int 0, .ref a7, .ref a8, .ref a9, .ref a10, .int 0, .int 0, .ref a11, .ref a12, .int 0, .int 0, .ref a13, .ref a14, .ref a15, .int 0, .int 0, .ref a16, .ref a17, .ref a18]))] := hD
  refine W.eq (g2 := F0 m 10 ls [.int 1]) rfl ?_
  refine W.widen (k := 0) (n := 0) (Nat.le_of_ble_eq_true rfl) (Nat.le_of_ble_eq_true rfl) ?_
  refine lv_if_ne (tgt := 21) hx hb dX12_needs_10 (by decide) (fun _ => ?_) (fun c9 => absurd c9 (by decide))
  refine lv_iconst (v := 0) hx hb dX12_needs_21 (by decide) ?_
  exact kt_zret hx hb hr hlocks hP hD hS (by first | rfl | decide | exact rfl) dX12_needs_22 [0] rfl rfl rfl rfl ⟨rfl, rfl⟩
set_option maxHeartbeats 4000000 in
set_option maxRecDepth 100000 in
theorem c_X12_uses (l : Launch) (G : va_G) (cy : Nat → ClassId) (h0 : Nat) (a1 : Nat) (a2 : Nat) (a3 : Nat) (a4 : Nat) (a5 : Nat) (a6 : Nat) (a7 : Nat) (a8 : Nat) (a9 : Nat) (a10 : Nat) (a11 : Nat) (a12 : Nat) (a13 : Nat) (a14 : Nat) (a15 : Nat) (a16 : Nat) (a17 : Nat) (a18 : Nat) (p0 : Int32) : Kt l G cy yX12_uses cX12_uses 4 (some .int) ({ frames := 14, cells := 0, slots := 0, locals := 400 } : Room) [.ref h0, .int p0] [(h0, .inr (11, [.int 0, .ref a1, .int 0, .ref a2, .int 0, .int 0, .int 0, .int 0, .int (-1), .ref a3, .ref a4, .int 0, .int 0, .int 0, .ref a5, .ref a6, .int 0, .int (-1), .int 0, .int 0, .ref a7, .ref a8, .ref a9, .ref a10, .int 0, .int 0, .ref a11, .ref a12, .int 0, .int 0, .ref a13, .ref a14, .ref a15, .int 0, .int 0, .ref a16, .ref a17, .ref a18]))] (fun (v : Option Value) (w1 : va_W) => v = some (.int 0) ∧ w1 = [(h0, .inr (11, [.int 1, .ref a1, .int 0, .ref a2, .int 0, .int 0, .int 0, .int 0, .int (-1), .ref a3, .ref a4, .int 0, .int 0, .int 0, .ref a5, .ref a6, .int 0, .int (-1), .int 0, .int 0, .ref a7, .ref a8, .ref a9, .ref a10, .int 0, .int 0, .ref a11, .ref a12, .int 0, .int 0, .ref a13, .ref a14, .ref a15, .int 0, .int 0, .ref a16, .ref a17, .ref a18]))]) := by
  refine kt_ofW (by decide) (Nat.le_of_ble_eq_true rfl) ?_
  intro p e s m below meth c A ls hx hb hr hU hown hlocks hml hin hP hK hD hA hS hl
  have hown : s.vm.findClass RX12 = some m.cls := hown
  have hl : lv_has ls 4 [(0, .ref h0), (1, .int p0)] := hl
  refine lv_aload_n hx hb dX12_uses_0 rfl (lv_at hl 0 rfl) ?_
  refine lv_iconst (v := 0) hx hb dX12_uses_1 (by decide) ?_
  refine va_put (D := G) (ci := 11) (v := .int 0) (ty := .int) (C := RX12) (T := TX12) (N := 38) hx hb hU in_X12 tyX12 tyX12_ok nmX12 hown hK.1 hP hD hS 0 rfl rfl 0 (by decide) (hU _ u_1505) (fun _ h9 => h9) rfl (by decide +kernel) rfl rfl (Nat.le_of_ble_eq_true rfl) dX12_uses_2 (fun H locs hP hD hS => ?_)
  have hP : va_P G vwCl [(h0, .inr (11, [.int 0, .ref a1, .int 0, .ref a2, .int 0, .int 0, .int 0, .int 0, .int (-1), .ref a3, .ref a4, .int 0, .int 0, .int 0, .ref a5, .ref a6, .int 0, .int (-1), .int 0, .int 0, .ref a7, .ref a8, .ref a9, .ref a10, .int 0, .int 0, .ref a11, .ref a12, .int 0, .int 0, .ref a13, .ref a14, .ref a15, .int 0, .int 0, .ref a16, .ref a17, .ref a18]))] H := hP
  have hD : va_D A [(h0, .inr (11, [.int 0, .ref a1, .int 0, .ref a2, .int 0, .int 0, .int 0, .int 0, .int (-1), .ref a3, .ref a4, .int 0, .int 0, .int 0, .ref a5, .ref a6, .int 0, .int (-1), .int 0, .int 0, .ref a7, .ref a8, .ref a9, .ref a10, .int 0, .int 0, .ref a11, .ref a12, .int 0, .int 0, .ref a13, .ref a14, .ref a15, .int 0, .int 0, .ref a16, .ref a17, .ref a18]))] := hD
  refine lv_aload_n hx hb dX12_uses_5 rfl (lv_at hl 0 rfl) ?_
  refine lv_iload_n hx hb dX12_uses_6 rfl (lv_at hl 1 rfl) ?_
  refine kt_callV (wc := [(h0, .inr (11, [.int 0, .ref a1, .int 0, .ref a2, .int 0, .int 0, .int 0, .int 0, .int (-1), .ref a3, .ref a4, .int 0, .int 0, .int 0, .ref a5, .ref a6, .int 0, .int (-1), .int 0, .int 0, .ref a7, .ref a8, .ref a9, .ref a10, .int 0, .int 0, .ref a11, .ref a12, .int 0, .int 0, .ref a13, .ref a14, .ref a15, .int 0, .int 0, .ref a16, .ref a17, .ref a18]))]) (wr := []) (As := [.int p0]) (rest := []) (c_X12_noLine l G cy h0 a1 a2 a3 a4 a5 a6 a7 a8 a9 a10 a11 a12 a13 a14 a15 a16 a17 a18 p0) m_X12_noLine u_1834 hx hb hml hown hU hl.1 hK hP hD hS hA dX12_uses_7 [0] [] rfl rfl rfl rfl rfl rfl (Nat.le_of_ble_eq_true rfl) (ci := 11) rfl rfl rfl (fun v9 w9 H locs hw hP hD hS => ?_)
  obtain ⟨rfl, rfl⟩ := hw
  have hP : va_P G vwCl [(h0, .inr (11, [.int 1, .ref a1, .int 0, .ref a2, .int 0, .int 0, .int 0, .int 0, .int (-1), .ref a3, .ref a4, .int 0, .int 0, .int 0, .ref a5, .ref a6, .int 0, .int (-1), .int 0, .int 0, .ref a7, .ref a8, .ref a9, .ref a10, .int 0, .int 0, .ref a11, .ref a12, .int 0, .int 0, .ref a13, .ref a14, .ref a15, .int 0, .int 0, .ref a16, .ref a17, .ref a18]))] H := hP
  have hD : va_D A [(h0, .inr (11, [.int 1, .ref a1, .int 0, .ref a2, .int 0, .int 0, .int 0, .int 0, .int (-1), .ref a3, .ref a4, .int 0, .int 0, .int 0, .ref a5, .ref a6, .int 0, .int (-1), .int 0, .int 0, .ref a7, .ref a8, .ref a9, .ref a10, .int 0, .int 0, .ref a11, .ref a12, .int 0, .int 0, .ref a13, .ref a14, .ref a15, .int 0, .int 0, .ref a16, .ref a17, .ref a18]))] := hD
  refine W.eq (g2 := F0 m 10 ls [.int 1]) rfl ?_
  refine W.widen (k := 0) (n := 0) (Nat.le_of_ble_eq_true rfl) (Nat.le_of_ble_eq_true rfl) ?_
  refine lv_if_eq (tgt := 15) hx hb dX12_uses_10 (by decide) (fun c9 => absurd c9 (by decide)) (fun _ => ?_)
  refine lv_iconst (v := 0) hx hb dX12_uses_13 (by decide) ?_
  exact kt_iret hx hb hr hlocks hP hD hS dX12_uses_14 [0] rfl rfl rfl rfl ⟨rfl, rfl⟩
set_option maxHeartbeats 4000000 in
set_option maxRecDepth 100000 in
theorem c_X12_same (l : Launch) (G : va_G) (cy : Nat → ClassId) (h0 : Nat) (a1 : Nat) (a2 : Nat) (a3 : Nat) (a4 : Nat) (a5 : Nat) (a6 : Nat) (a7 : Nat) (a8 : Nat) (a9 : Nat) (a10 : Nat) (a11 : Nat) (a12 : Nat) (a13 : Nat) (a14 : Nat) (a15 : Nat) (a16 : Nat) (a17 : Nat) (a18 : Nat) (p0 : Int32) : Kt l G cy yX12_same cX12_same 5 (some .int) ({ frames := 14, cells := 0, slots := 0, locals := 400 } : Room) [.ref h0, .int p0] [(h0, .inr (11, [.int 0, .ref a1, .int 0, .ref a2, .int 0, .int 0, .int 0, .int 0, .int (-1), .ref a3, .ref a4, .int 0, .int 0, .int 0, .ref a5, .ref a6, .int 0, .int (-1), .int 0, .int 0, .ref a7, .ref a8, .ref a9, .ref a10, .int 0, .int 0, .ref a11, .ref a12, .int 0, .int 0, .ref a13, .ref a14, .ref a15, .int 0, .int 0, .ref a16, .ref a17, .ref a18]))] (fun (v : Option Value) (w1 : va_W) => v = some (.int 0) ∧ w1 = [(h0, .inr (11, [.int 1, .ref a1, .int 0, .ref a2, .int 0, .int 0, .int 0, .int 0, .int (-1), .ref a3, .ref a4, .int 0, .int 0, .int 0, .ref a5, .ref a6, .int 0, .int (-1), .int 0, .int 0, .ref a7, .ref a8, .ref a9, .ref a10, .int 0, .int 0, .ref a11, .ref a12, .int 0, .int 0, .ref a13, .ref a14, .ref a15, .int 0, .int 0, .ref a16, .ref a17, .ref a18]))]) := by
  refine kt_ofW (by decide) (Nat.le_of_ble_eq_true rfl) ?_
  intro p e s m below meth c A ls hx hb hr hU hown hlocks hml hin hP hK hD hA hS hl
  have hown : s.vm.findClass RX12 = some m.cls := hown
  have hl : lv_has ls 5 [(0, .ref h0), (1, .int p0)] := hl
  refine lv_aload_n hx hb dX12_same_0 rfl (lv_at hl 0 rfl) ?_
  refine lv_iconst (v := 0) hx hb dX12_same_1 (by decide) ?_
  refine va_put (D := G) (ci := 11) (v := .int 0) (ty := .int) (C := RX12) (T := TX12) (N := 38) hx hb hU in_X12 tyX12 tyX12_ok nmX12 hown hK.1 hP hD hS 0 rfl rfl 0 (by decide) (hU _ u_1505) (fun _ h9 => h9) rfl (by decide +kernel) rfl rfl (Nat.le_of_ble_eq_true rfl) dX12_same_2 (fun H locs hP hD hS => ?_)
  have hP : va_P G vwCl [(h0, .inr (11, [.int 0, .ref a1, .int 0, .ref a2, .int 0, .int 0, .int 0, .int 0, .int (-1), .ref a3, .ref a4, .int 0, .int 0, .int 0, .ref a5, .ref a6, .int 0, .int (-1), .int 0, .int 0, .ref a7, .ref a8, .ref a9, .ref a10, .int 0, .int 0, .ref a11, .ref a12, .int 0, .int 0, .ref a13, .ref a14, .ref a15, .int 0, .int 0, .ref a16, .ref a17, .ref a18]))] H := hP
  have hD : va_D A [(h0, .inr (11, [.int 0, .ref a1, .int 0, .ref a2, .int 0, .int 0, .int 0, .int 0, .int (-1), .ref a3, .ref a4, .int 0, .int 0, .int 0, .ref a5, .ref a6, .int 0, .int (-1), .int 0, .int 0, .ref a7, .ref a8, .ref a9, .ref a10, .int 0, .int 0, .ref a11, .ref a12, .int 0, .int 0, .ref a13, .ref a14, .ref a15, .int 0, .int 0, .ref a16, .ref a17, .ref a18]))] := hD
  refine lv_aload_n hx hb dX12_same_5 rfl (lv_at hl 0 rfl) ?_
  refine lv_iload_n hx hb dX12_same_6 rfl (lv_at hl 1 rfl) ?_
  refine kt_callV (wc := [(h0, .inr (11, [.int 0, .ref a1, .int 0, .ref a2, .int 0, .int 0, .int 0, .int 0, .int (-1), .ref a3, .ref a4, .int 0, .int 0, .int 0, .ref a5, .ref a6, .int 0, .int (-1), .int 0, .int 0, .ref a7, .ref a8, .ref a9, .ref a10, .int 0, .int 0, .ref a11, .ref a12, .int 0, .int 0, .ref a13, .ref a14, .ref a15, .int 0, .int 0, .ref a16, .ref a17, .ref a18]))]) (wr := []) (As := [.int p0]) (rest := []) (c_X12_noLine l G cy h0 a1 a2 a3 a4 a5 a6 a7 a8 a9 a10 a11 a12 a13 a14 a15 a16 a17 a18 p0) m_X12_noLine u_1834 hx hb hml hown hU hl.1 hK hP hD hS hA dX12_same_7 [0] [] rfl rfl rfl rfl rfl rfl (Nat.le_of_ble_eq_true rfl) (ci := 11) rfl rfl rfl (fun v9 w9 H locs hw hP hD hS => ?_)
  obtain ⟨rfl, rfl⟩ := hw
  have hP : va_P G vwCl [(h0, .inr (11, [.int 1, .ref a1, .int 0, .ref a2, .int 0, .int 0, .int 0, .int 0, .int (-1), .ref a3, .ref a4, .int 0, .int 0, .int 0, .ref a5, .ref a6, .int 0, .int (-1), .int 0, .int 0, .ref a7, .ref a8, .ref a9, .ref a10, .int 0, .int 0, .ref a11, .ref a12, .int 0, .int 0, .ref a13, .ref a14, .ref a15, .int 0, .int 0, .ref a16, .ref a17, .ref a18]))] H := hP
  have hD : va_D A [(h0, .inr (11, [.int 1, .ref a1, .int 0, .ref a2, .int 0, .int 0, .int 0, .int 0, .int (-1), .ref a3, .ref a4, .int 0, .int 0, .int 0, .ref a5, .ref a6, .int 0, .int (-1), .int 0, .int 0, .ref a7, .ref a8, .ref a9, .ref a10, .int 0, .int 0, .ref a11, .ref a12, .int 0, .int 0, .ref a13, .ref a14, .ref a15, .int 0, .int 0, .ref a16, .ref a17, .ref a18]))] := hD
  refine W.eq (g2 := F0 m 10 ls [.int 1]) rfl ?_
  refine W.widen (k := 0) (n := 0) (Nat.le_of_ble_eq_true rfl) (Nat.le_of_ble_eq_true rfl) ?_
  refine lv_if_eq (tgt := 15) hx hb dX12_same_10 (by decide) (fun c9 => absurd c9 (by decide)) (fun _ => ?_)
  refine lv_iconst (v := 0) hx hb dX12_same_13 (by decide) ?_
  exact kt_iret hx hb hr hlocks hP hD hS dX12_same_14 [0] rfl rfl rfl rfl ⟨rfl, rfl⟩
set_option maxHeartbeats 4000000 in
set_option maxRecDepth 100000 in
theorem c_X12_gives (l : Launch) (G : va_G) (cy : Nat → ClassId) (h0 : Nat) (a1 : Nat) (a2 : Nat) (a3 : Nat) (a4 : Nat) (a5 : Nat) (a6 : Nat) (a7 : Nat) (a8 : Nat) (a9 : Nat) (a10 : Nat) (a11 : Nat) (a12 : Nat) (a13 : Nat) (a14 : Nat) (a15 : Nat) (a16 : Nat) (a17 : Nat) (a18 : Nat) (p0 : Int32) (p1 : Int32) : Kt l G cy yX12_gives cX12_gives 3 (some .boolean) ({ frames := 14, cells := 0, slots := 0, locals := 400 } : Room) [.ref h0, .int p0, .int p1] [(h0, .inr (11, [.int 0, .ref a1, .int 0, .ref a2, .int 0, .int 0, .int 0, .int 0, .int (-1), .ref a3, .ref a4, .int 0, .int 0, .int 0, .ref a5, .ref a6, .int 0, .int (-1), .int 0, .int 0, .ref a7, .ref a8, .ref a9, .ref a10, .int 0, .int 0, .ref a11, .ref a12, .int 0, .int 0, .ref a13, .ref a14, .ref a15, .int 0, .int 0, .ref a16, .ref a17, .ref a18]))] (fun (v : Option Value) (w1 : va_W) => v = some (.int 0) ∧ w1 = [(h0, .inr (11, [.int 1, .ref a1, .int 0, .ref a2, .int 0, .int 0, .int 0, .int 0, .int (-1), .ref a3, .ref a4, .int 0, .int 0, .int 0, .ref a5, .ref a6, .int 0, .int (-1), .int 0, .int 0, .ref a7, .ref a8, .ref a9, .ref a10, .int 0, .int 0, .ref a11, .ref a12, .int 0, .int 0, .ref a13, .ref a14, .ref a15, .int 0, .int 0, .ref a16, .ref a17, .ref a18]))]) := by
  refine kt_ofW (by decide) (Nat.le_of_ble_eq_true rfl) ?_
  intro p e s m below meth c A ls hx hb hr hU hown hlocks hml hin hP hK hD hA hS hl
  have hown : s.vm.findClass RX12 = some m.cls := hown
  have hl : lv_has ls 3 [(0, .ref h0), (1, .int p0), (2, .int p1)] := hl
  refine lv_aload_n hx hb dX12_gives_0 rfl (lv_at hl 0 rfl) ?_
  refine lv_iconst (v := 0) hx hb dX12_gives_1 (by decide) ?_
  refine va_put (D := G) (ci := 11) (v := .int 0) (ty := .int) (C := RX12) (T := TX12) (N := 38) hx hb hU in_X12 tyX12 tyX12_ok nmX12 hown hK.1 hP hD hS 0 rfl rfl 0 (by decide) (hU _ u_1505) (fun _ h9 => h9) rfl (by decide +kernel) rfl rfl (Nat.le_of_ble_eq_true rfl) dX12_gives_2 (fun H locs hP hD hS => ?_)
  have hP : va_P G vwCl [(h0, .inr (11, [.int 0, .ref a1, .int 0, .ref a2, .int 0, .int 0, .int 0, .int 0, .int (-1), .ref a3, .ref a4, .int 0, .int 0, .int 0, .ref a5, .ref a6, .int 0, .int (-1), .int 0, .int 0, .ref a7, .ref a8, .ref a9, .ref a10, .int 0, .int 0, .ref a11, .ref a12, .int 0, .int 0, .ref a13, .ref a14, .ref a15, .int 0, .int 0, .ref a16, .ref a17, .ref a18]))] H := hP
  have hD : va_D A [(h0, .inr (11, [.int 0, .ref a1, .int 0, .ref a2, .int 0, .int 0, .int 0, .int 0, .int (-1), .ref a3, .ref a4, .int 0, .int 0, .int 0, .ref a5, .ref a6, .int 0, .int (-1), .int 0, .int 0, .ref a7, .ref a8, .ref a9, .ref a10, .int 0, .int 0, .ref a11, .ref a12, .int 0, .int 0, .ref a13, .ref a14, .ref a15, .int 0, .int 0, .ref a16, .ref a17, .ref a18]))] := hD
  refine lv_aload_n hx hb dX12_gives_5 rfl (lv_at hl 0 rfl) ?_
  refine lv_iload_n hx hb dX12_gives_6 rfl (lv_at hl 1 rfl) ?_
  refine kt_callV (wc := [(h0, .inr (11, [.int 0, .ref a1, .int 0, .ref a2, .int 0, .int 0, .int 0, .int 0, .int (-1), .ref a3, .ref a4, .int 0, .int 0, .int 0, .ref a5, .ref a6, .int 0, .int (-1), .int 0, .int 0, .ref a7, .ref a8, .ref a9, .ref a10, .int 0, .int 0, .ref a11, .ref a12, .int 0, .int 0, .ref a13, .ref a14, .ref a15, .int 0, .int 0, .ref a16, .ref a17, .ref a18]))]) (wr := []) (As := [.int p0]) (rest := []) (c_X12_noLine l G cy h0 a1 a2 a3 a4 a5 a6 a7 a8 a9 a10 a11 a12 a13 a14 a15 a16 a17 a18 p0) m_X12_noLine u_1834 hx hb hml hown hU hl.1 hK hP hD hS hA dX12_gives_7 [0] [] rfl rfl rfl rfl rfl rfl (Nat.le_of_ble_eq_true rfl) (ci := 11) rfl rfl rfl (fun v9 w9 H locs hw hP hD hS => ?_)
  obtain ⟨rfl, rfl⟩ := hw
  have hP : va_P G vwCl [(h0, .inr (11, [.int 1, .ref a1, .int 0, .ref a2, .int 0, .int 0, .int 0, .int 0, .int (-1), .ref a3, .ref a4, .int 0, .int 0, .int 0, .ref a5, .ref a6, .int 0, .int (-1), .int 0, .int 0, .ref a7, .ref a8, .ref a9, .ref a10, .int 0, .int 0, .ref a11, .ref a12, .int 0, .int 0, .ref a13, .ref a14, .ref a15, .int 0, .int 0, .ref a16, .ref a17, .ref a18]))] H := hP
  have hD : va_D A [(h0, .inr (11, [.int 1, .ref a1, .int 0, .ref a2, .int 0, .int 0, .int 0, .int 0, .int (-1), .ref a3, .ref a4, .int 0, .int 0, .int 0, .ref a5, .ref a6, .int 0, .int (-1), .int 0, .int 0, .ref a7, .ref a8, .ref a9, .ref a10, .int 0, .int 0, .ref a11, .ref a12, .int 0, .int 0, .ref a13, .ref a14, .ref a15, .int 0, .int 0, .ref a16, .ref a17, .ref a18]))] := hD
  refine W.eq (g2 := F0 m 10 ls [.int 1]) rfl ?_
  refine W.widen (k := 0) (n := 0) (Nat.le_of_ble_eq_true rfl) (Nat.le_of_ble_eq_true rfl) ?_
  refine lv_if_ne (tgt := 45) hx hb dX12_gives_10 (by decide) (fun _ => ?_) (fun c9 => absurd c9 (by decide))
  refine lv_iconst (v := 0) hx hb dX12_gives_45 (by decide) ?_
  exact kt_zret hx hb hr hlocks hP hD hS (by first | rfl | decide | exact rfl) dX12_gives_46 [0] rfl rfl rfl rfl ⟨rfl, rfl⟩
set_option maxHeartbeats 4000000 in
set_option maxRecDepth 100000 in
theorem c_X12_trim (l : Launch) (G : va_G) (cy : Nat → ClassId) (h0 : Nat) (a1 : Nat) (a2 : Nat) (a3 : Nat) (a4 : Nat) (a5 : Nat) (a6 : Nat) (a7 : Nat) (a8 : Nat) (a9 : Nat) (a10 : Nat) (a11 : Nat) (a12 : Nat) (a13 : Nat) (a14 : Nat) (a15 : Nat) (a16 : Nat) (a17 : Nat) (a18 : Nat) (p0 : Int32) : Kt l G cy yX12_trim cX12_trim 4 (some .int) ({ frames := 14, cells := 0, slots := 0, locals := 400 } : Room) [.ref h0, .int p0] [(h0, .inr (11, [.int 0, .ref a1, .int 0, .ref a2, .int 0, .int 0, .int 0, .int 0, .int (-1), .ref a3, .ref a4, .int 0, .int 0, .int 0, .ref a5, .ref a6, .int 0, .int (-1), .int 0, .int 0, .ref a7, .ref a8, .ref a9, .ref a10, .int 0, .int 0, .ref a11, .ref a12, .int 0, .int 0, .ref a13, .ref a14, .ref a15, .int 0, .int 0, .ref a16, .ref a17, .ref a18]))] (fun (v : Option Value) (w1 : va_W) => v = some (.int 0) ∧ w1 = [(h0, .inr (11, [.int 1, .ref a1, .int 0, .ref a2, .int 0, .int 0, .int 0, .int 0, .int (-1), .ref a3, .ref a4, .int 0, .int 0, .int 0, .ref a5, .ref a6, .int 0, .int (-1), .int 0, .int 0, .ref a7, .ref a8, .ref a9, .ref a10, .int 0, .int 0, .ref a11, .ref a12, .int 0, .int 0, .ref a13, .ref a14, .ref a15, .int 0, .int 0, .ref a16, .ref a17, .ref a18]))]) := by
  refine kt_ofW (by decide) (Nat.le_of_ble_eq_true rfl) ?_
  intro p e s m below meth c A ls hx hb hr hU hown hlocks hml hin hP hK hD hA hS hl
  have hown : s.vm.findClass RX12 = some m.cls := hown
  have hl : lv_has ls 4 [(0, .ref h0), (1, .int p0)] := hl
  refine lv_aload_n hx hb dX12_trim_0 rfl (lv_at hl 0 rfl) ?_
  refine lv_iconst (v := 0) hx hb dX12_trim_1 (by decide) ?_
  refine va_put (D := G) (ci := 11) (v := .int 0) (ty := .int) (C := RX12) (T := TX12) (N := 38) hx hb hU in_X12 tyX12 tyX12_ok nmX12 hown hK.1 hP hD hS 0 rfl rfl 0 (by decide) (hU _ u_1505) (fun _ h9 => h9) rfl (by decide +kernel) rfl rfl (Nat.le_of_ble_eq_true rfl) dX12_trim_2 (fun H locs hP hD hS => ?_)
  have hP : va_P G vwCl [(h0, .inr (11, [.int 0, .ref a1, .int 0, .ref a2, .int 0, .int 0, .int 0, .int 0, .int (-1), .ref a3, .ref a4, .int 0, .int 0, .int 0, .ref a5, .ref a6, .int 0, .int (-1), .int 0, .int 0, .ref a7, .ref a8, .ref a9, .ref a10, .int 0, .int 0, .ref a11, .ref a12, .int 0, .int 0, .ref a13, .ref a14, .ref a15, .int 0, .int 0, .ref a16, .ref a17, .ref a18]))] H := hP
  have hD : va_D A [(h0, .inr (11, [.int 0, .ref a1, .int 0, .ref a2, .int 0, .int 0, .int 0, .int 0, .int (-1), .ref a3, .ref a4, .int 0, .int 0, .int 0, .ref a5, .ref a6, .int 0, .int (-1), .int 0, .int 0, .ref a7, .ref a8, .ref a9, .ref a10, .int 0, .int 0, .ref a11, .ref a12, .int 0, .int 0, .ref a13, .ref a14, .ref a15, .int 0, .int 0, .ref a16, .ref a17, .ref a18]))] := hD
  refine lv_aload_n hx hb dX12_trim_5 rfl (lv_at hl 0 rfl) ?_
  refine lv_iload_n hx hb dX12_trim_6 rfl (lv_at hl 1 rfl) ?_
  refine kt_callV (wc := [(h0, .inr (11, [.int 0, .ref a1, .int 0, .ref a2, .int 0, .int 0, .int 0, .int 0, .int (-1), .ref a3, .ref a4, .int 0, .int 0, .int 0, .ref a5, .ref a6, .int 0, .int (-1), .int 0, .int 0, .ref a7, .ref a8, .ref a9, .ref a10, .int 0, .int 0, .ref a11, .ref a12, .int 0, .int 0, .ref a13, .ref a14, .ref a15, .int 0, .int 0, .ref a16, .ref a17, .ref a18]))]) (wr := []) (As := [.int p0]) (rest := []) (c_X12_noLine l G cy h0 a1 a2 a3 a4 a5 a6 a7 a8 a9 a10 a11 a12 a13 a14 a15 a16 a17 a18 p0) m_X12_noLine u_1834 hx hb hml hown hU hl.1 hK hP hD hS hA dX12_trim_7 [0] [] rfl rfl rfl rfl rfl rfl (Nat.le_of_ble_eq_true rfl) (ci := 11) rfl rfl rfl (fun v9 w9 H locs hw hP hD hS => ?_)
  obtain ⟨rfl, rfl⟩ := hw
  have hP : va_P G vwCl [(h0, .inr (11, [.int 1, .ref a1, .int 0, .ref a2, .int 0, .int 0, .int 0, .int 0, .int (-1), .ref a3, .ref a4, .int 0, .int 0, .int 0, .ref a5, .ref a6, .int 0, .int (-1), .int 0, .int 0, .ref a7, .ref a8, .ref a9, .ref a10, .int 0, .int 0, .ref a11, .ref a12, .int 0, .int 0, .ref a13, .ref a14, .ref a15, .int 0, .int 0, .ref a16, .ref a17, .ref a18]))] H := hP
  have hD : va_D A [(h0, .inr (11, [.int 1, .ref a1, .int 0, .ref a2, .int 0, .int 0, .int 0, .int 0, .int (-1), .ref a3, .ref a4, .int 0, .int 0, .int 0, .ref a5, .ref a6, .int 0, .int (-1), .int 0, .int 0, .ref a7, .ref a8, .ref a9, .ref a10, .int 0, .int 0, .ref a11, .ref a12, .int 0, .int 0, .ref a13, .ref a14, .ref a15, .int 0, .int 0, .ref a16, .ref a17, .ref a18]))] := hD
  refine W.eq (g2 := F0 m 10 ls [.int 1]) rfl ?_
  refine W.widen (k := 0) (n := 0) (Nat.le_of_ble_eq_true rfl) (Nat.le_of_ble_eq_true rfl) ?_
  refine lv_if_eq (tgt := 15) hx hb dX12_trim_10 (by decide) (fun c9 => absurd c9 (by decide)) (fun _ => ?_)
  refine lv_iconst (v := 0) hx hb dX12_trim_13 (by decide) ?_
  exact kt_iret hx hb hr hlocks hP hD hS dX12_trim_14 [0] rfl rfl rfl rfl ⟨rfl, rfl⟩
set_option maxHeartbeats 4000000 in
set_option maxRecDepth 100000 in
theorem c_X12_translate (l : Launch) (G : va_G) (cy : Nat → ClassId) (h0 : Nat) (a1 : Nat) (a2 : Nat) (a3 : Nat) (a4 : Nat) (a5 : Nat) (a6 : Nat) (a7 : Nat) (a8 : Nat) (a9 : Nat) (a10 : Nat) (a11 : Nat) (a12 : Nat) (a13 : Nat) (a14 : Nat) (a15 : Nat) (a16 : Nat) (a17 : Nat) (a18 : Nat) (p0 : Int32) : Kt l G cy yX12_translate cX12_translate 2 (some .int) ({ frames := 14, cells := 0, slots := 0, locals := 400 } : Room) [.ref h0, .int p0] [(h0, .inr (11, [.int 0, .ref a1, .int 0, .ref a2, .int 0, .int 0, .int 0, .int 0, .int (-1), .ref a3, .ref a4, .int 0, .int 0, .int 0, .ref a5, .ref a6, .int 0, .int (-1), .int 0, .int 0, .ref a7, .ref a8, .ref a9, .ref a10, .int 0, .int 0, .ref a11, .ref a12, .int 0, .int 0, .ref a13, .ref a14, .ref a15, .int 0, .int 0, .ref a16, .ref a17, .ref a18]))] (fun (v : Option Value) (w1 : va_W) => v = some (.int 0) ∧ w1 = [(h0, .inr (11, [.int 1, .ref a1, .int 0, .ref a2, .int 0, .int 0, .int 0, .int 0, .int (-1), .ref a3, .ref a4, .int 0, .int 0, .int 0, .ref a5, .ref a6, .int 0, .int (-1), .int 0, .int 0, .ref a7, .ref a8, .ref a9, .ref a10, .int 0, .int 0, .ref a11, .ref a12, .int 0, .int 0, .ref a13, .ref a14, .ref a15, .int 0, .int 0, .ref a16, .ref a17, .ref a18]))]) := by
  refine kt_ofW (by decide) (Nat.le_of_ble_eq_true rfl) ?_
  intro p e s m below meth c A ls hx hb hr hU hown hlocks hml hin hP hK hD hA hS hl
  have hown : s.vm.findClass RX12 = some m.cls := hown
  have hl : lv_has ls 2 [(0, .ref h0), (1, .int p0)] := hl
  refine lv_aload_n hx hb dX12_translate_0 rfl (lv_at hl 0 rfl) ?_
  refine lv_iconst (v := 0) hx hb dX12_translate_1 (by decide) ?_
  refine va_put (D := G) (ci := 11) (v := .int 0) (ty := .int) (C := RX12) (T := TX12) (N := 38) hx hb hU in_X12 tyX12 tyX12_ok nmX12 hown hK.1 hP hD hS 0 rfl rfl 0 (by decide) (hU _ u_1505) (fun _ h9 => h9) rfl (by decide +kernel) rfl rfl (Nat.le_of_ble_eq_true rfl) dX12_translate_2 (fun H locs hP hD hS => ?_)
  have hP : va_P G vwCl [(h0, .inr (11, [.int 0, .ref a1, .int 0, .ref a2, .int 0, .int 0, .int 0, .int 0, .int (-1), .ref a3, .ref a4, .int 0, .int 0, .int 0, .ref a5, .ref a6, .int 0, .int (-1), .int 0, .int 0, .ref a7, .ref a8, .ref a9, .ref a10, .int 0, .int 0, .ref a11, .ref a12, .int 0, .int 0, .ref a13, .ref a14, .ref a15, .int 0, .int 0, .ref a16, .ref a17, .ref a18]))] H := hP
  have hD : va_D A [(h0, .inr (11, [.int 0, .ref a1, .int 0, .ref a2, .int 0, .int 0, .int 0, .int 0, .int (-1), .ref a3, .ref a4, .int 0, .int 0, .int 0, .ref a5, .ref a6, .int 0, .int (-1), .int 0, .int 0, .ref a7, .ref a8, .ref a9, .ref a10, .int 0, .int 0, .ref a11, .ref a12, .int 0, .int 0, .ref a13, .ref a14, .ref a15, .int 0, .int 0, .ref a16, .ref a17, .ref a18]))] := hD
  refine lv_aload_n hx hb dX12_translate_5 rfl (lv_at hl 0 rfl) ?_
  refine lv_iload_n hx hb dX12_translate_6 rfl (lv_at hl 1 rfl) ?_
  refine kt_callV (wc := [(h0, .inr (11, [.int 0, .ref a1, .int 0, .ref a2, .int 0, .int 0, .int 0, .int 0, .int (-1), .ref a3, .ref a4, .int 0, .int 0, .int 0, .ref a5, .ref a6, .int 0, .int (-1), .int 0, .int 0, .ref a7, .ref a8, .ref a9, .ref a10, .int 0, .int 0, .ref a11, .ref a12, .int 0, .int 0, .ref a13, .ref a14, .ref a15, .int 0, .int 0, .ref a16, .ref a17, .ref a18]))]) (wr := []) (As := [.int p0]) (rest := []) (c_X12_noLine l G cy h0 a1 a2 a3 a4 a5 a6 a7 a8 a9 a10 a11 a12 a13 a14 a15 a16 a17 a18 p0) m_X12_noLine u_1834 hx hb hml hown hU hl.1 hK hP hD hS hA dX12_translate_7 [0] [] rfl rfl rfl rfl rfl rfl (Nat.le_of_ble_eq_true rfl) (ci := 11) rfl rfl rfl (fun v9 w9 H locs hw hP hD hS => ?_)
  obtain ⟨rfl, rfl⟩ := hw
  have hP : va_P G vwCl [(h0, .inr (11, [.int 1, .ref a1, .int 0, .ref a2, .int 0, .int 0, .int 0, .int 0, .int (-1), .ref a3, .ref a4, .int 0, .int 0, .int 0, .ref a5, .ref a6, .int 0, .int (-1), .int 0, .int 0, .ref a7, .ref a8, .ref a9, .ref a10, .int 0, .int 0, .ref a11, .ref a12, .int 0, .int 0, .ref a13, .ref a14, .ref a15, .int 0, .int 0, .ref a16, .ref a17, .ref a18]))] H := hP
  have hD : va_D A [(h0, .inr (11, [.int 1, .ref a1, .int 0, .ref a2, .int 0, .int 0, .int 0, .int 0, .int (-1), .ref a3, .ref a4, .int 0, .int 0, .int 0, .ref a5, .ref a6, .int 0, .int (-1), .int 0, .int 0, .ref a7, .ref a8, .ref a9, .ref a10, .int 0, .int 0, .ref a11, .ref a12, .int 0, .int 0, .ref a13, .ref a14, .ref a15, .int 0, .int 0, .ref a16, .ref a17, .ref a18]))] := hD
  refine W.eq (g2 := F0 m 10 ls [.int 1]) rfl ?_
  refine W.widen (k := 0) (n := 0) (Nat.le_of_ble_eq_true rfl) (Nat.le_of_ble_eq_true rfl) ?_
  refine lv_if_ne (tgt := 21) hx hb dX12_translate_10 (by decide) (fun _ => ?_) (fun c9 => absurd c9 (by decide))
  refine lv_iconst (v := 0) hx hb dX12_translate_21 (by decide) ?_
  exact kt_iret hx hb hr hlocks hP hD hS dX12_translate_22 [0] rfl rfl rfl rfl ⟨rfl, rfl⟩
set_option maxHeartbeats 4000000 in
set_option maxRecDepth 100000 in
theorem c_X12_translated (l : Launch) (G : va_G) (cy : Nat → ClassId) (h0 : Nat) (a1 : Nat) (a2 : Nat) (a3 : Nat) (a4 : Nat) (a5 : Nat) (a6 : Nat) (a7 : Nat) (a8 : Nat) (a9 : Nat) (a10 : Nat) (a11 : Nat) (a12 : Nat) (a13 : Nat) (a14 : Nat) (a15 : Nat) (a16 : Nat) (a17 : Nat) (a18 : Nat) (p0 : Int32) : Kt l G cy yX12_translated cX12_translated 5 (some .int) ({ frames := 14, cells := 0, slots := 0, locals := 400 } : Room) [.ref h0, .int p0] [(h0, .inr (11, [.int 0, .ref a1, .int 0, .ref a2, .int 0, .int 0, .int 0, .int 0, .int (-1), .ref a3, .ref a4, .int 0, .int 0, .int 0, .ref a5, .ref a6, .int 0, .int (-1), .int 0, .int 0, .ref a7, .ref a8, .ref a9, .ref a10, .int 0, .int 0, .ref a11, .ref a12, .int 0, .int 0, .ref a13, .ref a14, .ref a15, .int 0, .int 0, .ref a16, .ref a17, .ref a18]))] (fun (v : Option Value) (w1 : va_W) => v = some (.int 0) ∧ w1 = [(h0, .inr (11, [.int 1, .ref a1, .int 0, .ref a2, .int 0, .int 0, .int 0, .int 0, .int (-1), .ref a3, .ref a4, .int 0, .int 0, .int 0, .ref a5, .ref a6, .int 0, .int (-1), .int 0, .int 0, .ref a7, .ref a8, .ref a9, .ref a10, .int 0, .int 0, .ref a11, .ref a12, .int 0, .int 0, .ref a13, .ref a14, .ref a15, .int 0, .int 0, .ref a16, .ref a17, .ref a18]))]) := by
  refine kt_ofW (by decide) (Nat.le_of_ble_eq_true rfl) ?_
  intro p e s m below meth c A ls hx hb hr hU hown hlocks hml hin hP hK hD hA hS hl
  have hown : s.vm.findClass RX12 = some m.cls := hown
  have hl : lv_has ls 5 [(0, .ref h0), (1, .int p0)] := hl
  refine lv_aload_n hx hb dX12_translated_0 rfl (lv_at hl 0 rfl) ?_
  refine lv_iconst (v := 0) hx hb dX12_translated_1 (by decide) ?_
  refine va_put (D := G) (ci := 11) (v := .int 0) (ty := .int) (C := RX12) (T := TX12) (N := 38) hx hb hU in_X12 tyX12 tyX12_ok nmX12 hown hK.1 hP hD hS 0 rfl rfl 0 (by decide) (hU _ u_1505) (fun _ h9 => h9) rfl (by decide +kernel) rfl rfl (Nat.le_of_ble_eq_true rfl) dX12_translated_2 (fun H locs hP hD hS => ?_)
  have hP : va_P G vwCl [(h0, .inr (11, [.int 0, .ref a1, .int 0, .ref a2, .int 0, .int 0, .int 0, .int 0, .int (-1), .ref a3, .ref a4, .int 0, .int 0, .int 0, .ref a5, .ref a6, .int 0, .int (-1), .int 0, .int 0, .ref a7, .ref a8, .ref a9, .ref a10, .int 0, .int 0, .ref a11, .ref a12, .int 0, .int 0, .ref a13, .ref a14, .ref a15, .int 0, .int 0, .ref a16, .ref a17, .ref a18]))] H := hP
  have hD : va_D A [(h0, .inr (11, [.int 0, .ref a1, .int 0, .ref a2, .int 0, .int 0, .int 0, .int 0, .int (-1), .ref a3, .ref a4, .int 0, .int 0, .int 0, .ref a5, .ref a6, .int 0, .int (-1), .int 0, .int 0, .ref a7, .ref a8, .ref a9, .ref a10, .int 0, .int 0, .ref a11, .ref a12, .int 0, .int 0, .ref a13, .ref a14, .ref a15, .int 0, .int 0, .ref a16, .ref a17, .ref a18]))] := hD
  refine lv_aload_n hx hb dX12_translated_5 rfl (lv_at hl 0 rfl) ?_
  refine lv_iload_n hx hb dX12_translated_6 rfl (lv_at hl 1 rfl) ?_
  refine kt_callV (wc := [(h0, .inr (11, [.int 0, .ref a1, .int 0, .ref a2, .int 0, .int 0, .int 0, .int 0, .int (-1), .ref a3, .ref a4, .int 0, .int 0, .int 0, .ref a5, .ref a6, .int 0, .int (-1), .int 0, .int 0, .ref a7, .ref a8, .ref a9, .ref a10, .int 0, .int 0, .ref a11, .ref a12, .int 0, .int 0, .ref a13, .ref a14, .ref a15, .int 0, .int 0, .ref a16, .ref a17, .ref a18]))]) (wr := []) (As := [.int p0]) (rest := []) (c_X12_noLine l G cy h0 a1 a2 a3 a4 a5 a6 a7 a8 a9 a10 a11 a12 a13 a14 a15 a16 a17 a18 p0) m_X12_noLine u_1834 hx hb hml hown hU hl.1 hK hP hD hS hA dX12_translated_7 [0] [] rfl rfl rfl rfl rfl rfl (Nat.le_of_ble_eq_true rfl) (ci := 11) rfl rfl rfl (fun v9 w9 H locs hw hP hD hS => ?_)
  obtain ⟨rfl, rfl⟩ := hw
  have hP : va_P G vwCl [(h0, .inr (11, [.int 1, .ref a1, .int 0, .ref a2, .int 0, .int 0, .int 0, .int 0, .int (-1), .ref a3, .ref a4, .int 0, .int 0, .int 0, .ref a5, .ref a6, .int 0, .int (-1), .int 0, .int 0, .ref a7, .ref a8, .ref a9, .ref a10, .int 0, .int 0, .ref a11, .ref a12, .int 0, .int 0, .ref a13, .ref a14, .ref a15, .int 0, .int 0, .ref a16, .ref a17, .ref a18]))] H := hP
  have hD : va_D A [(h0, .inr (11, [.int 1, .ref a1, .int 0, .ref a2, .int 0, .int 0, .int 0, .int 0, .int (-1), .ref a3, .ref a4, .int 0, .int 0, .int 0, .ref a5, .ref a6, .int 0, .int (-1), .int 0, .int 0, .ref a7, .ref a8, .ref a9, .ref a10, .int 0, .int 0, .ref a11, .ref a12, .int 0, .int 0, .ref a13, .ref a14, .ref a15, .int 0, .int 0, .ref a16, .ref a17, .ref a18]))] := hD
  refine W.eq (g2 := F0 m 10 ls [.int 1]) rfl ?_
  refine W.widen (k := 0) (n := 0) (Nat.le_of_ble_eq_true rfl) (Nat.le_of_ble_eq_true rfl) ?_
  refine lv_if_ne (tgt := 21) hx hb dX12_translated_10 (by decide) (fun _ => ?_) (fun c9 => absurd c9 (by decide))
  refine lv_iconst (v := 0) hx hb dX12_translated_21 (by decide) ?_
  exact kt_iret hx hb hr hlocks hP hD hS dX12_translated_22 [0] rfl rfl rfl rfl ⟨rfl, rfl⟩
set_option maxHeartbeats 4000000 in
set_option maxRecDepth 100000 in
theorem c_X12_slack (l : Launch) (G : va_G) (cy : Nat → ClassId) (h0 : Nat) (a1 : Nat) (a2 : Nat) (a3 : Nat) (a4 : Nat) (a5 : Nat) (a6 : Nat) (a7 : Nat) (a8 : Nat) (a9 : Nat) (a10 : Nat) (a11 : Nat) (a12 : Nat) (a13 : Nat) (a14 : Nat) (a15 : Nat) (a16 : Nat) (a17 : Nat) (a18 : Nat) (p0 : Int32) (p1 : Int32) : Kt l G cy yX12_slack cX12_slack 3 (some .int) ({ frames := 14, cells := 0, slots := 0, locals := 400 } : Room) [.ref h0, .int p0, .int p1] [(h0, .inr (11, [.int 0, .ref a1, .int 0, .ref a2, .int 0, .int 0, .int 0, .int 0, .int (-1), .ref a3, .ref a4, .int 0, .int 0, .int 0, .ref a5, .ref a6, .int 0, .int (-1), .int 0, .int 0, .ref a7, .ref a8, .ref a9, .ref a10, .int 0, .int 0, .ref a11, .ref a12, .int 0, .int 0, .ref a13, .ref a14, .ref a15, .int 0, .int 0, .ref a16, .ref a17, .ref a18]))] (fun (v : Option Value) (w1 : va_W) => v = some (.int 0) ∧ w1 = [(h0, .inr (11, [.int 1, .ref a1, .int 0, .ref a2, .int 0, .int 0, .int 0, .int 0, .int (-1), .ref a3, .ref a4, .int 0, .int 0, .int 0, .ref a5, .ref a6, .int 0, .int (-1), .int 0, .int 0, .ref a7, .ref a8, .ref a9, .ref a10, .int 0, .int 0, .ref a11, .ref a12, .int 0, .int 0, .ref a13, .ref a14, .ref a15, .int 0, .int 0, .ref a16, .ref a17, .ref a18]))]) := by
  refine kt_ofW (by decide) (Nat.le_of_ble_eq_true rfl) ?_
  intro p e s m below meth c A ls hx hb hr hU hown hlocks hml hin hP hK hD hA hS hl
  have hown : s.vm.findClass RX12 = some m.cls := hown
  have hl : lv_has ls 3 [(0, .ref h0), (1, .int p0), (2, .int p1)] := hl
  refine lv_aload_n hx hb dX12_slack_0 rfl (lv_at hl 0 rfl) ?_
  refine lv_iconst (v := 0) hx hb dX12_slack_1 (by decide) ?_
  refine va_put (D := G) (ci := 11) (v := .int 0) (ty := .int) (C := RX12) (T := TX12) (N := 38) hx hb hU in_X12 tyX12 tyX12_ok nmX12 hown hK.1 hP hD hS 0 rfl rfl 0 (by decide) (hU _ u_1505) (fun _ h9 => h9) rfl (by decide +kernel) rfl rfl (Nat.le_of_ble_eq_true rfl) dX12_slack_2 (fun H locs hP hD hS => ?_)
  have hP : va_P G vwCl [(h0, .inr (11, [.int 0, .ref a1, .int 0, .ref a2, .int 0, .int 0, .int 0, .int 0, .int (-1), .ref a3, .ref a4, .int 0, .int 0, .int 0, .ref a5, .ref a6, .int 0, .int (-1), .int 0, .int 0, .ref a7, .ref a8, .ref a9, .ref a10, .int 0, .int 0, .ref a11, .ref a12, .int 0, .int 0, .ref a13, .ref a14, .ref a15, .int 0, .int 0, .ref a16, .ref a17, .ref a18]))] H := hP
  have hD : va_D A [(h0, .inr (11, [.int 0, .ref a1, .int 0, .ref a2, .int 0, .int 0, .int 0, .int 0, .int (-1), .ref a3, .ref a4, .int 0, .int 0, .int 0, .ref a5, .ref a6, .int 0, .int (-1), .int 0, .int 0, .ref a7, .ref a8, .ref a9, .ref a10, .int 0, .int 0, .ref a11, .ref a12, .int 0, .int 0, .ref a13, .ref a14, .ref a15, .int 0, .int 0, .ref a16, .ref a17, .ref a18]))] := hD
  refine lv_aload_n hx hb dX12_slack_5 rfl (lv_at hl 0 rfl) ?_
  refine lv_iload_n hx hb dX12_slack_6 rfl (lv_at hl 1 rfl) ?_
  refine kt_callV (wc := [(h0, .inr (11, [.int 0, .ref a1, .int 0, .ref a2, .int 0, .int 0, .int 0, .int 0, .int (-1), .ref a3, .ref a4, .int 0, .int 0, .int 0, .ref a5, .ref a6, .int 0, .int (-1), .int 0, .int 0, .ref a7, .ref a8, .ref a9, .ref a10, .int 0, .int 0, .ref a11, .ref a12, .int 0, .int 0, .ref a13, .ref a14, .ref a15, .int 0, .int 0, .ref a16, .ref a17, .ref a18]))]) (wr := []) (As := [.int p0]) (rest := []) (c_X12_noLine l G cy h0 a1 a2 a3 a4 a5 a6 a7 a8 a9 a10 a11 a12 a13 a14 a15 a16 a17 a18 p0) m_X12_noLine u_1834 hx hb hml hown hU hl.1 hK hP hD hS hA dX12_slack_7 [0] [] rfl rfl rfl rfl rfl rfl (Nat.le_of_ble_eq_true rfl) (ci := 11) rfl rfl rfl (fun v9 w9 H locs hw hP hD hS => ?_)
  obtain ⟨rfl, rfl⟩ := hw
  have hP : va_P G vwCl [(h0, .inr (11, [.int 1, .ref a1, .int 0, .ref a2, .int 0, .int 0, .int 0, .int 0, .int (-1), .ref a3, .ref a4, .int 0, .int 0, .int 0, .ref a5, .ref a6, .int 0, .int (-1), .int 0, .int 0, .ref a7, .ref a8, .ref a9, .ref a10, .int 0, .int 0, .ref a11, .ref a12, .int 0, .int 0, .ref a13, .ref a14, .ref a15, .int 0, .int 0, .ref a16, .ref a17, .ref a18]))] H := hP
  have hD : va_D A [(h0, .inr (11, [.int 1, .ref a1, .int 0, .ref a2, .int 0, .int 0, .int 0, .int 0, .int (-1), .ref a3, .ref a4, .int 0, .int 0, .int 0, .ref a5, .ref a6, .int 0, .int (-1), .int 0, .int 0, .ref a7, .ref a8, .ref a9, .ref a10, .int 0, .int 0, .ref a11, .ref a12, .int 0, .int 0, .ref a13, .ref a14, .ref a15, .int 0, .int 0, .ref a16, .ref a17, .ref a18]))] := hD
  refine W.eq (g2 := F0 m 10 ls [.int 1]) rfl ?_
  refine W.widen (k := 0) (n := 0) (Nat.le_of_ble_eq_true rfl) (Nat.le_of_ble_eq_true rfl) ?_
  refine lv_if_ne (tgt := 21) hx hb dX12_slack_10 (by decide) (fun _ => ?_) (fun c9 => absurd c9 (by decide))
  refine lv_iconst (v := 0) hx hb dX12_slack_21 (by decide) ?_
  exact kt_iret hx hb hr hlocks hP hD hS dX12_slack_22 [0] rfl rfl rfl rfl ⟨rfl, rfl⟩
set_option maxHeartbeats 4000000 in
set_option maxRecDepth 100000 in
theorem c_X12_rests (l : Launch) (G : va_G) (cy : Nat → ClassId) (h0 : Nat) (a1 : Nat) (a2 : Nat) (a3 : Nat) (a4 : Nat) (a5 : Nat) (a6 : Nat) (a7 : Nat) (a8 : Nat) (a9 : Nat) (a10 : Nat) (a11 : Nat) (a12 : Nat) (a13 : Nat) (a14 : Nat) (a15 : Nat) (a16 : Nat) (a17 : Nat) (a18 : Nat) (p0 : Int32) : Kt l G cy yX12_rests cX12_rests 4 (some .int) ({ frames := 14, cells := 0, slots := 0, locals := 400 } : Room) [.ref h0, .int p0] [(h0, .inr (11, [.int 0, .ref a1, .int 0, .ref a2, .int 0, .int 0, .int 0, .int 0, .int (-1), .ref a3, .ref a4, .int 0, .int 0, .int 0, .ref a5, .ref a6, .int 0, .int (-1), .int 0, .int 0, .ref a7, .ref a8, .ref a9, .ref a10, .int 0, .int 0, .ref a11, .ref a12, .int 0, .int 0, .ref a13, .ref a14, .ref a15, .int 0, .int 0, .ref a16, .ref a17, .ref a18]))] (fun (v : Option Value) (w1 : va_W) => v = some (.int 0) ∧ w1 = [(h0, .inr (11, [.int 1, .ref a1, .int 0, .ref a2, .int 0, .int 0, .int 0, .int 0, .int (-1), .ref a3, .ref a4, .int 0, .int 0, .int 0, .ref a5, .ref a6, .int 0, .int (-1), .int 0, .int 0, .ref a7, .ref a8, .ref a9, .ref a10, .int 0, .int 0, .ref a11, .ref a12, .int 0, .int 0, .ref a13, .ref a14, .ref a15, .int 0, .int 0, .ref a16, .ref a17, .ref a18]))]) := by
  refine kt_ofW (by decide) (Nat.le_of_ble_eq_true rfl) ?_
  intro p e s m below meth c A ls hx hb hr hU hown hlocks hml hin hP hK hD hA hS hl
  have hown : s.vm.findClass RX12 = some m.cls := hown
  have hl : lv_has ls 4 [(0, .ref h0), (1, .int p0)] := hl
  refine lv_aload_n hx hb dX12_rests_0 rfl (lv_at hl 0 rfl) ?_
  refine lv_iconst (v := 0) hx hb dX12_rests_1 (by decide) ?_
  refine va_put (D := G) (ci := 11) (v := .int 0) (ty := .int) (C := RX12) (T := TX12) (N := 38) hx hb hU in_X12 tyX12 tyX12_ok nmX12 hown hK.1 hP hD hS 0 rfl rfl 0 (by decide) (hU _ u_1505) (fun _ h9 => h9) rfl (by decide +kernel) rfl rfl (Nat.le_of_ble_eq_true rfl) dX12_rests_2 (fun H locs hP hD hS => ?_)
  have hP : va_P G vwCl [(h0, .inr (11, [.int 0, .ref a1, .int 0, .ref a2, .int 0, .int 0, .int 0, .int 0, .int (-1), .ref a3, .ref a4, .int 0, .int 0, .int 0, .ref a5, .ref a6, .int 0, .int (-1), .int 0, .int 0, .ref a7, .ref a8, .ref a9, .ref a10, .int 0, .int 0, .ref a11, .ref a12, .int 0, .int 0, .ref a13, .ref a14, .ref a15, .int 0, .int 0, .ref a16, .ref a17, .ref a18]))] H := hP
  have hD : va_D A [(h0, .inr (11, [.int 0, .ref a1, .int 0, .ref a2, .int 0, .int 0, .int 0, .int 0, .int (-1), .ref a3, .ref a4, .int 0, .int 0, .int 0, .ref a5, .ref a6, .int 0, .int (-1), .int 0, .int 0, .ref a7, .ref a8, .ref a9, .ref a10, .int 0, .int 0, .ref a11, .ref a12, .int 0, .int 0, .ref a13, .ref a14, .ref a15, .int 0, .int 0, .ref a16, .ref a17, .ref a18]))] := hD
  refine lv_aload_n hx hb dX12_rests_5 rfl (lv_at hl 0 rfl) ?_
  refine lv_iload_n hx hb dX12_rests_6 rfl (lv_at hl 1 rfl) ?_
  refine kt_callV (wc := [(h0, .inr (11, [.int 0, .ref a1, .int 0, .ref a2, .int 0, .int 0, .int 0, .int 0, .int (-1), .ref a3, .ref a4, .int 0, .int 0, .int 0, .ref a5, .ref a6, .int 0, .int (-1), .int 0, .int 0, .ref a7, .ref a8, .ref a9, .ref a10, .int 0, .int 0, .ref a11, .ref a12, .int 0, .int 0, .ref a13, .ref a14, .ref a15, .int 0, .int 0, .ref a16, .ref a17, .ref a18]))]) (wr := []) (As := [.int p0]) (rest := []) (c_X12_noLine l G cy h0 a1 a2 a3 a4 a5 a6 a7 a8 a9 a10 a11 a12 a13 a14 a15 a16 a17 a18 p0) m_X12_noLine u_1834 hx hb hml hown hU hl.1 hK hP hD hS hA dX12_rests_7 [0] [] rfl rfl rfl rfl rfl rfl (Nat.le_of_ble_eq_true rfl) (ci := 11) rfl rfl rfl (fun v9 w9 H locs hw hP hD hS => ?_)
  obtain ⟨rfl, rfl⟩ := hw
  have hP : va_P G vwCl [(h0, .inr (11, [.int 1, .ref a1, .int 0, .ref a2, .int 0, .int 0, .int 0, .int 0, .int (-1), .ref a3, .ref a4, .int 0, .int 0, .int 0, .ref a5, .ref a6, .int 0, .int (-1), .int 0, .int 0, .ref a7, .ref a8, .ref a9, .ref a10, .int 0, .int 0, .ref a11, .ref a12, .int 0, .int 0, .ref a13, .ref a14, .ref a15, .int 0, .int 0, .ref a16, .ref a17, .ref a18]))] H := hP
  have hD : va_D A [(h0, .inr (11, [.int 1, .ref a1, .int 0, .ref a2, .int 0, .int 0, .int 0, .int 0, .int (-1), .ref a3, .ref a4, .int 0, .int 0, .int 0, .ref a5, .ref a6, .int 0, .int (-1), .int 0, .int 0, .ref a7, .ref a8, .ref a9, .ref a10, .int 0, .int 0, .ref a11, .ref a12, .int 0, .int 0, .ref a13, .ref a14, .ref a15, .int 0, .int 0, .ref a16, .ref a17, .ref a18]))] := hD
  refine W.eq (g2 := F0 m 10 ls [.int 1]) rfl ?_
  refine W.widen (k := 0) (n := 0) (Nat.le_of_ble_eq_true rfl) (Nat.le_of_ble_eq_true rfl) ?_
  refine lv_if_eq (tgt := 15) hx hb dX12_rests_10 (by decide) (fun c9 => absurd c9 (by decide)) (fun _ => ?_)
  refine lv_iconst (v := 0) hx hb dX12_rests_13 (by decide) ?_
  exact kt_iret hx hb hr hlocks hP hD hS dX12_rests_14 [0] rfl rfl rfl rfl ⟨rfl, rfl⟩
set_option maxHeartbeats 4000000 in
set_option maxRecDepth 100000 in
theorem c_X12_without (l : Launch) (G : va_G) (cy : Nat → ClassId) (h0 : Nat) (a1 : Nat) (a2 : Nat) (a3 : Nat) (a4 : Nat) (a5 : Nat) (a6 : Nat) (a7 : Nat) (a8 : Nat) (a9 : Nat) (a10 : Nat) (a11 : Nat) (a12 : Nat) (a13 : Nat) (a14 : Nat) (a15 : Nat) (a16 : Nat) (a17 : Nat) (a18 : Nat) (p0 : Int32) : Kt l G cy yX12_without cX12_without 2 (some .int) ({ frames := 14, cells := 0, slots := 0, locals := 400 } : Room) [.ref h0, .int p0] [(h0, .inr (11, [.int 0, .ref a1, .int 0, .ref a2, .int 0, .int 0, .int 0, .int 0, .int (-1), .ref a3, .ref a4, .int 0, .int 0, .int 0, .ref a5, .ref a6, .int 0, .int (-1), .int 0, .int 0, .ref a7, .ref a8, .ref a9, .ref a10, .int 0, .int 0, .ref a11, .ref a12, .int 0, .int 0, .ref a13, .ref a14, .ref a15, .int 0, .int 0, .ref a16, .ref a17, .ref a18]))] (fun (v : Option Value) (w1 : va_W) => v = some (.int 0) ∧ w1 = [(h0, .inr (11, [.int 1, .ref a1, .int 0, .ref a2, .int 0, .int 0, .int 0, .int 0, .int (-1), .ref a3, .ref a4, .int 0, .int 0, .int 0, .ref a5, .ref a6, .int 0, .int (-1), .int 0, .int 0, .ref a7, .ref a8, .ref a9, .ref a10, .int 0, .int 0, .ref a11, .ref a12, .int 0, .int 0, .ref a13, .ref a14, .ref a15, .int 0, .int 0, .ref a16, .ref a17, .ref a18]))]) := by
  refine kt_ofW (by decide) (Nat.le_of_ble_eq_true rfl) ?_
  intro p e s m below meth c A ls hx hb hr hU hown hlocks hml hin hP hK hD hA hS hl
  have hown : s.vm.findClass RX12 = some m.cls := hown
  have hl : lv_has ls 2 [(0, .ref h0), (1, .int p0)] := hl
  refine lv_aload_n hx hb dX12_without_0 rfl (lv_at hl 0 rfl) ?_
  refine lv_iconst (v := 0) hx hb dX12_without_1 (by decide) ?_
  refine va_put (D := G) (ci := 11) (v := .int 0) (ty := .int) (C := RX12) (T := TX12) (N := 38) hx hb hU in_X12 tyX12 tyX12_ok nmX12 hown hK.1 hP hD hS 0 rfl rfl 0 (by decide) (hU _ u_1505) (fun _ h9 => h9) rfl (by decide +kernel) rfl rfl (Nat.le_of_ble_eq_true rfl) dX12_without_2 (fun H locs hP hD hS => ?_)
  have hP : va_P G vwCl [(h0, .inr (11, [.int 0, .ref a1, .int 0, .ref a2, .int 0, .int 0, .int 0, .int 0, .int (-1), .ref a3, .ref a4, .int 0, .int 0, .int 0, .ref a5, .ref a6, .int 0, .int (-1), .int 0, .int 0, .ref a7, .ref a8, .ref a9, .ref a10, .int 0, .int 0, .ref a11, .ref a12, .int 0, .int 0, .ref a13, .ref a14, .ref a15, .int 0, .int 0, .ref a16, .ref a17, .ref a18]))] H := hP
  have hD : va_D A [(h0, .inr (11, [.int 0, .ref a1, .int 0, .ref a2, .int 0, .int 0, .int 0, .int 0, .int (-1), .ref a3, .ref a4, .int 0, .int 0, .int 0, .ref a5, .ref a6, .int 0, .int (-1), .int 0, .int 0, .ref a7, .ref a8, .ref a9, .ref a10, .int 0, .int 0, .ref a11, .ref a12, .int 0, .int 0, .ref a13, .ref a14, .ref a15, .int 0, .int 0, .ref a16, .ref a17, .ref a18]))] := hD
  refine lv_aload_n hx hb dX12_without_5 rfl (lv_at hl 0 rfl) ?_
  refine lv_iload_n hx hb dX12_without_6 rfl (lv_at hl 1 rfl) ?_
  refine lv_iconst (v := 0) hx hb dX12_without_7 (by decide) ?_
  refine lv_aload_n hx hb dX12_without_8 rfl (lv_at hl 0 rfl) ?_
  refine va_get (D := G) (ci := 11) (v := .int 0) (C := RX12) (T := TX12) (N := 38) hx hb hU in_X12 hown hK.1 hP 0 rfl rfl 11 (by decide) (hU _ u_1516) (fun _ h9 => h9) rfl dX12_without_9 ?_
  refine lv_iconst (v := 1) hx hb dX12_without_12 (by decide) ?_
  refine lv_isub hx hb dX12_without_13 (lx_top (y := (-1)) (by decide +kernel) ?_)
  refine kt_callS (wc := []) (wr := [(h0, .inr (11, [.int 0, .ref a1, .int 0, .ref a2, .int 0, .int 0, .int 0, .int 0, .int (-1), .ref a3, .ref a4, .int 0, .int 0, .int 0, .ref a5, .ref a6, .int 0, .int (-1), .int 0, .int 0, .ref a7, .ref a8, .ref a9, .ref a10, .int 0, .int 0, .ref a11, .ref a12, .int 0, .int 0, .ref a13, .ref a14, .ref a15, .int 0, .int 0, .ref a16, .ref a17, .ref a18]))]) (As := [.int p0, .int 0, .int (-1)]) (rest := [.ref h0]) (c_X12_in_0 l G cy p0) m_X12_in u_1732 hx hb hml hown hU hl.1 hK hP hD hS hA dX12_without_14 [] [0] rfl rfl rfl rfl rfl rfl (Nat.le_of_ble_eq_true rfl) (fun v9 w9 H locs hw hP hD hS => ?_)
  obtain ⟨rfl, rfl⟩ := hw
  have hP : va_P G vwCl [(h0, .inr (11, [.int 0, .ref a1, .int 0, .ref a2, .int 0, .int 0, .int 0, .int 0, .int (-1), .ref a3, .ref a4, .int 0, .int 0, .int 0, .ref a5, .ref a6, .int 0, .int (-1), .int 0, .int 0, .ref a7, .ref a8, .ref a9, .ref a10, .int 0, .int 0, .ref a11, .ref a12, .int 0, .int 0, .ref a13, .ref a14, .ref a15, .int 0, .int 0, .ref a16, .ref a17, .ref a18]))] H := hP
  have hD : va_D A [(h0, .inr (11, [.int 0, .ref a1, .int 0, .ref a2, .int 0, .int 0, .int 0, .int 0, .int (-1), .ref a3, .ref a4, .int 0, .int 0, .int 0, .ref a5, .ref a6, .int 0, .int (-1), .int 0, .int 0, .ref a7, .ref a8, .ref a9, .ref a10, .int 0, .int 0, .ref a11, .ref a12, .int 0, .int 0, .ref a13, .ref a14, .ref a15, .int 0, .int 0, .ref a16, .ref a17, .ref a18]))] := hD
  refine W.eq (g2 := F0 m 17 ls [.int 0, .ref h0]) rfl ?_
  refine W.widen (k := 0) (n := 0) (Nat.le_of_ble_eq_true rfl) (Nat.le_of_ble_eq_true rfl) ?_
  refine lv_if_ne (tgt := 24) hx hb dX12_without_17 (by decide) (fun c9 => absurd (by decide) c9) (fun _ => ?_)
  refine lv_iconst (v := 1) hx hb dX12_without_20 (by decide) ?_
  refine lv_goto (tgt := 25) hx hb dX12_without_21 (by decide) ?_
  refine lv_iconst (v := 1) hx hb dX12_without_25 (by decide) ?_
  refine kt_callV (wc := [(h0, .inr (11, [.int 0, .ref a1, .int 0, .ref a2, .int 0, .int 0, .int 0, .int 0, .int (-1), .ref a3, .ref a4, .int 0, .int 0, .int 0, .ref a5, .ref a6, .int 0, .int (-1), .int 0, .int 0, .ref a7, .ref a8, .ref a9, .ref a10, .int 0, .int 0, .ref a11, .ref a12, .int 0, .int 0, .ref a13, .ref a14, .ref a15, .int 0, .int 0, .ref a16, .ref a17, .ref a18]))]) (wr := []) (As := [.int 1, .int 1]) (rest := []) (c_X12_throwsIf_1 l G cy h0 a1 a2 a3 a4 a5 a6 a7 a8 a9 a10 a11 a12 a13 a14 a15 a16 a17 a18 1) m_X12_throwsIf u_1752 hx hb hml hown hU hl.1 hK hP hD hS hA dX12_without_26 [0] [] rfl rfl rfl rfl rfl rfl (Nat.le_of_ble_eq_true rfl) (ci := 11) rfl rfl rfl (fun v9 w9 H locs hw hP hD hS => ?_)
  obtain ⟨rfl, rfl⟩ := hw
  have hP : va_P G vwCl [(h0, .inr (11, [.int 1, .ref a1, .int 0, .ref a2, .int 0, .int 0, .int 0, .int 0, .int (-1), .ref a3, .ref a4, .int 0, .int 0, .int 0, .ref a5, .ref a6, .int 0, .int (-1), .int 0, .int 0, .ref a7, .ref a8, .ref a9, .ref a10, .int 0, .int 0, .ref a11, .ref a12, .int 0, .int 0, .ref a13, .ref a14, .ref a15, .int 0, .int 0, .ref a16, .ref a17, .ref a18]))] H := hP
  have hD : va_D A [(h0, .inr (11, [.int 1, .ref a1, .int 0, .ref a2, .int 0, .int 0, .int 0, .int 0, .int (-1), .ref a3, .ref a4, .int 0, .int 0, .int 0, .ref a5, .ref a6, .int 0, .int (-1), .int 0, .int 0, .ref a7, .ref a8, .ref a9, .ref a10, .int 0, .int 0, .ref a11, .ref a12, .int 0, .int 0, .ref a13, .ref a14, .ref a15, .int 0, .int 0, .ref a16, .ref a17, .ref a18]))] := hD
  refine W.eq (g2 := F0 m 29 ls [.int 1]) rfl ?_
  refine W.widen (k := 0) (n := 0) (Nat.le_of_ble_eq_true rfl) (Nat.le_of_ble_eq_true rfl) ?_
  refine lv_if_eq (tgt := 34) hx hb dX12_without_29 (by decide) (fun c9 => absurd c9 (by decide)) (fun _ => ?_)
  refine lv_iconst (v := 0) hx hb dX12_without_32 (by decide) ?_
  exact kt_iret hx hb hr hlocks hP hD hS dX12_without_33 [0] rfl rfl rfl rfl ⟨rfl, rfl⟩
set_option maxHeartbeats 4000000 in
set_option maxRecDepth 100000 in
theorem c_X12_fault (l : Launch) (G : va_G) (cy : Nat → ClassId) (h0 : Nat) (a1 : Nat) (a2 : Nat) (a3 : Nat) (a4 : Nat) (a5 : Nat) (a6 : Nat) (a7 : Nat) (a8 : Nat) (a9 : Nat) (a10 : Nat) (a11 : Nat) (a12 : Nat) (a13 : Nat) (a14 : Nat) (a15 : Nat) (a16 : Nat) (a17 : Nat) (a18 : Nat) : Kt l G cy yX12_fault cX12_fault 1 (some .int) ({ frames := 10, cells := 0, slots := 0, locals := 200 } : Room) [.ref h0] [(h0, .inr (11, [.int 0, .ref a1, .int 0, .ref a2, .int 0, .int 0, .int 0, .int 0, .int (-1), .ref a3, .ref a4, .int 0, .int 0, .int 0, .ref a5, .ref a6, .int 0, .int (-1), .int 0, .int 0, .ref a7, .ref a8, .ref a9, .ref a10, .int 0, .int 0, .ref a11, .ref a12, .int 0, .int 0, .ref a13, .ref a14, .ref a15, .int 0, .int 0, .ref a16, .ref a17, .ref a18]))] (fun (v : Option Value) (w1 : va_W) => v = some (.int (-1)) ∧ w1 = []) := by
  refine kt_ofW (by decide) (Nat.le_of_ble_eq_true rfl) ?_
  intro p e s m below meth c A ls hx hb hr hU hown hlocks hml hin hP hK hD hA hS hl
  have hown : s.vm.findClass RX12 = some m.cls := hown
  have hl : lv_has ls 1 [(0, .ref h0)] := hl
  refine lv_aload_n hx hb dX12_fault_0 rfl (lv_at hl 0 rfl) ?_
  refine lv_iconst (v := 0) hx hb dX12_fault_1 (by decide) ?_
  refine va_put (D := G) (ci := 11) (v := .int 0) (ty := .int) (C := RX12) (T := TX12) (N := 38) hx hb hU in_X12 tyX12 tyX12_ok nmX12 hown hK.1 hP hD hS 0 rfl rfl 0 (by decide) (hU _ u_1505) (fun _ h9 => h9) rfl (by decide +kernel) rfl rfl (Nat.le_of_ble_eq_true rfl) dX12_fault_2 (fun H locs hP hD hS => ?_)
  have hP : va_P G vwCl [(h0, .inr (11, [.int 0, .ref a1, .int 0, .ref a2, .int 0, .int 0, .int 0, .int 0, .int (-1), .ref a3, .ref a4, .int 0, .int 0, .int 0, .ref a5, .ref a6, .int 0, .int (-1), .int 0, .int 0, .ref a7, .ref a8, .ref a9, .ref a10, .int 0, .int 0, .ref a11, .ref a12, .int 0, .int 0, .ref a13, .ref a14, .ref a15, .int 0, .int 0, .ref a16, .ref a17, .ref a18]))] H := hP
  have hD : va_D A [(h0, .inr (11, [.int 0, .ref a1, .int 0, .ref a2, .int 0, .int 0, .int 0, .int 0, .int (-1), .ref a3, .ref a4, .int 0, .int 0, .int 0, .ref a5, .ref a6, .int 0, .int (-1), .int 0, .int 0, .ref a7, .ref a8, .ref a9, .ref a10, .int 0, .int 0, .ref a11, .ref a12, .int 0, .int 0, .ref a13, .ref a14, .ref a15, .int 0, .int 0, .ref a16, .ref a17, .ref a18]))] := hD
  refine lv_aload_n hx hb dX12_fault_5 rfl (lv_at hl 0 rfl) ?_
  refine va_get (D := G) (ci := 11) (v := .int (-1)) (C := RX12) (T := TX12) (N := 38) hx hb hU in_X12 hown hK.1 hP 0 rfl rfl 8 (by decide) (hU _ u_1513) (fun _ h9 => h9) rfl dX12_fault_6 ?_
  exact kt_iret hx hb hr hlocks hP hD hS dX12_fault_9 [] rfl rfl rfl rfl ⟨rfl, rfl⟩
set_option maxHeartbeats 4000000 in
set_option maxRecDepth 100000 in
theorem c_X12_refutes (l : Launch) (G : va_G) (cy : Nat → ClassId) (h0 : Nat) (a1 : Nat) (a2 : Nat) (a3 : Nat) (a4 : Nat) (a5 : Nat) (a6 : Nat) (a7 : Nat) (a8 : Nat) (a9 : Nat) (a10 : Nat) (a11 : Nat) (a12 : Nat) (a13 : Nat) (a14 : Nat) (a15 : Nat) (a16 : Nat) (a17 : Nat) (a18 : Nat) : Kt l G cy yX12_refutes cX12_refutes 2 (some .int) ({ frames := 10, cells := 0, slots := 0, locals := 200 } : Room) [.ref h0] [(h0, .inr (11, [.int 0, .ref a1, .int 0, .ref a2, .int 0, .int 0, .int 0, .int 0, .int (-1), .ref a3, .ref a4, .int 0, .int 0, .int 0, .ref a5, .ref a6, .int 0, .int (-1), .int 0, .int 0, .ref a7, .ref a8, .ref a9, .ref a10, .int 0, .int 0, .ref a11, .ref a12, .int 0, .int 0, .ref a13, .ref a14, .ref a15, .int 0, .int 0, .ref a16, .ref a17, .ref a18]))] (fun (v : Option Value) (w1 : va_W) => v = some (.int (-1)) ∧ w1 = []) := by
  refine kt_ofW (by decide) (Nat.le_of_ble_eq_true rfl) ?_
  intro p e s m below meth c A ls hx hb hr hU hown hlocks hml hin hP hK hD hA hS hl
  have hown : s.vm.findClass RX12 = some m.cls := hown
  have hl : lv_has ls 2 [(0, .ref h0)] := hl
  refine lv_aload_n hx hb dX12_refutes_0 rfl (lv_at hl 0 rfl) ?_
  refine lv_iconst (v := 0) hx hb dX12_refutes_1 (by decide) ?_
  refine va_put (D := G) (ci := 11) (v := .int 0) (ty := .int) (C := RX12) (T := TX12) (N := 38) hx hb hU in_X12 tyX12 tyX12_ok nmX12 hown hK.1 hP hD hS 0 rfl rfl 0 (by decide) (hU _ u_1505) (fun _ h9 => h9) rfl (by decide +kernel) rfl rfl (Nat.le_of_ble_eq_true rfl) dX12_refutes_2 (fun H locs hP hD hS => ?_)
  have hP : va_P G vwCl [(h0, .inr (11, [.int 0, .ref a1, .int 0, .ref a2, .int 0, .int 0, .int 0, .int 0, .int (-1), .ref a3, .ref a4, .int 0, .int 0, .int 0, .ref a5, .ref a6, .int 0, .int (-1), .int 0, .int 0, .ref a7, .ref a8, .ref a9, .ref a10, .int 0, .int 0, .ref a11, .ref a12, .int 0, .int 0, .ref a13, .ref a14, .ref a15, .int 0, .int 0, .ref a16, .ref a17, .ref a18]))] H := hP
  have hD : va_D A [(h0, .inr (11, [.int 0, .ref a1, .int 0, .ref a2, .int 0, .int 0, .int 0, .int 0, .int (-1), .ref a3, .ref a4, .int 0, .int 0, .int 0, .ref a5, .ref a6, .int 0, .int (-1), .int 0, .int 0, .ref a7, .ref a8, .ref a9, .ref a10, .int 0, .int 0, .ref a11, .ref a12, .int 0, .int 0, .ref a13, .ref a14, .ref a15, .int 0, .int 0, .ref a16, .ref a17, .ref a18]))] := hD
  refine lv_iconst (v := 0) hx hb dX12_refutes_5 (by decide) ?_
  refine lv_istore_n (lv' := [(1, .int 0), (0, .ref h0)]) hx hb dX12_refutes_6 rfl hl (by decide) rfl (fun ls hl => ?_)
  refine lv_iload_n hx hb dX12_refutes_7 rfl (lv_at hl 0 rfl) ?_
  refine lv_aload_n hx hb dX12_refutes_8 rfl (lv_at hl 1 rfl) ?_
  refine va_get (D := G) (ci := 11) (v := .int 0) (C := RX12) (T := TX12) (N := 38) hx hb hU in_X12 hown hK.1 hP 0 rfl rfl 12 (by decide) (hU _ u_1517) (fun _ h9 => h9) rfl dX12_refutes_9 ?_
  refine lv_icmp_ge (tgt := 31) hx hb dX12_refutes_12 (by decide) (fun _ => ?_) (fun c9 => absurd (by decide) c9)
  refine lv_iconst (v := (-1)) hx hb dX12_refutes_31 (by decide) ?_
  exact kt_iret hx hb hr hlocks hP hD hS dX12_refutes_32 [] rfl rfl rfl rfl ⟨rfl, rfl⟩
set_option maxHeartbeats 4000000 in
set_option maxRecDepth 100000 in
theorem c_X12_end (l : Launch) (G : va_G) (cy : Nat → ClassId) (h0 : Nat) (a1 : Nat) (a2 : Nat) (a3 : Nat) (a4 : Nat) (a5 : Nat) (a6 : Nat) (a7 : Nat) (a8 : Nat) (a9 : Nat) (a10 : Nat) (a11 : Nat) (a12 : Nat) (a13 : Nat) (a14 : Nat) (a15 : Nat) (a16 : Nat) (a17 : Nat) (a18 : Nat) (p0 : Int32) : Kt l G cy yX12_end cX12_end 2 (some .boolean) ({ frames := 10, cells := 0, slots := 0, locals := 200 } : Room) [.ref h0, .int p0] [(h0, .inr (11, [.int 0, .ref a1, .int 0, .ref a2, .int 0, .int 0, .int 0, .int 0, .int (-1), .ref a3, .ref a4, .int 0, .int 0, .int 0, .ref a5, .ref a6, .int 0, .int (-1), .int 0, .int 0, .ref a7, .ref a8, .ref a9, .ref a10, .int 0, .int 0, .ref a11, .ref a12, .int 0, .int 0, .ref a13, .ref a14, .ref a15, .int 0, .int 0, .ref a16, .ref a17, .ref a18]))] (fun (v : Option Value) (w1 : va_W) => ∃ (r : Int32), v = some (.int r) ∧ w1 = [] ∧ (r = sp_end p0)) := by
  refine kt_ofW (by decide) (Nat.le_of_ble_eq_true rfl) ?_
  intro p e s m below meth c A ls hx hb hr hU hown hlocks hml hin hP hK hD hA hS hl
  have hown : s.vm.findClass RX12 = some m.cls := hown
  have hl : lv_has ls 2 [(0, .ref h0), (1, .int p0)] := hl
  refine lv_aload_n hx hb dX12_end_0 rfl (lv_at hl 0 rfl) ?_
  refine lv_iconst (v := 0) hx hb dX12_end_1 (by decide) ?_
  refine va_put (D := G) (ci := 11) (v := .int 0) (ty := .int) (C := RX12) (T := TX12) (N := 38) hx hb hU in_X12 tyX12 tyX12_ok nmX12 hown hK.1 hP hD hS 0 rfl rfl 0 (by decide) (hU _ u_1505) (fun _ h9 => h9) rfl (by decide +kernel) rfl rfl (Nat.le_of_ble_eq_true rfl) dX12_end_2 (fun H locs hP hD hS => ?_)
  have hP : va_P G vwCl [(h0, .inr (11, [.int 0, .ref a1, .int 0, .ref a2, .int 0, .int 0, .int 0, .int 0, .int (-1), .ref a3, .ref a4, .int 0, .int 0, .int 0, .ref a5, .ref a6, .int 0, .int (-1), .int 0, .int 0, .ref a7, .ref a8, .ref a9, .ref a10, .int 0, .int 0, .ref a11, .ref a12, .int 0, .int 0, .ref a13, .ref a14, .ref a15, .int 0, .int 0, .ref a16, .ref a17, .ref a18]))] H := hP
  have hD : va_D A [(h0, .inr (11, [.int 0, .ref a1, .int 0, .ref a2, .int 0, .int 0, .int 0, .int 0, .int (-1), .ref a3, .ref a4, .int 0, .int 0, .int 0, .ref a5, .ref a6, .int 0, .int (-1), .int 0, .int 0, .ref a7, .ref a8, .ref a9, .ref a10, .int 0, .int 0, .ref a11, .ref a12, .int 0, .int 0, .ref a13, .ref a14, .ref a15, .int 0, .int 0, .ref a16, .ref a17, .ref a18]))] := hD
  refine lv_iload_n hx hb dX12_end_5 rfl (lv_at hl 1 rfl) ?_
  refine lv_if_lt (tgt := 17) hx hb dX12_end_6 (by decide) (fun c_1 => ?_) (fun c_1 => ?_)
  · refine lv_iconst (v := 0) hx hb dX12_end_17 (by decide) ?_
    exact kt_zret hx hb hr hlocks hP hD hS (by first | rfl | decide | exact rfl) dX12_end_18 [] rfl rfl rfl rfl ⟨0, rfl, rfl, (by simp [sp_end, c_1])⟩
  · refine lv_iload_n hx hb dX12_end_9 rfl (lv_at hl 1 rfl) ?_
    refine lv_aload_n hx hb dX12_end_10 rfl (lv_at hl 0 rfl) ?_
    refine va_get (D := G) (ci := 11) (v := .int 0) (C := RX12) (T := TX12) (N := 38) hx hb hU in_X12 hown hK.1 hP 0 rfl rfl 2 (by decide) (hU _ u_1507) (fun _ h9 => h9) rfl dX12_end_11 ?_
    refine lv_icmp_le (tgt := 19) hx hb dX12_end_14 (by decide) (fun c_2 => ?_) (fun c_2 => ?_)
    · refine lv_aload_n hx hb dX12_end_19 rfl (lv_at hl 0 rfl) ?_
      refine lv_iload_n hx hb dX12_end_20 rfl (lv_at hl 1 rfl) ?_
      refine va_put (D := G) (ci := 11) (v := .int p0) (ty := .int) (C := RX12) (T := TX12) (N := 38) hx hb hU in_X12 tyX12 tyX12_ok nmX12 hown hK.1 hP hD hS 0 rfl rfl 2 (by decide) (hU _ u_1507) (fun _ h9 => h9) rfl (by decide +kernel) rfl rfl (Nat.le_of_ble_eq_true rfl) dX12_end_21 (fun H locs hP hD hS => ?_)
      have hP : va_P G vwCl [(h0, .inr (11, [.int 0, .ref a1, .int p0, .ref a2, .int 0, .int 0, .int 0, .int 0, .int (-1), .ref a3, .ref a4, .int 0, .int 0, .int 0, .ref a5, .ref a6, .int 0, .int (-1), .int 0, .int 0, .ref a7, .ref a8, .ref a9, .ref a10, .int 0, .int 0, .ref a11, .ref a12, .int 0, .int 0, .ref a13, .ref a14, .ref a15, .int 0, .int 0, .ref a16, .ref a17, .ref a18]))] H := hP
      have hD : va_D A [(h0, .inr (11, [.int 0, .ref a1, .int p0, .ref a2, .int 0, .int 0, .int 0, .int 0, .int (-1), .ref a3, .ref a4, .int 0, .int 0, .int 0, .ref a5, .ref a6, .int 0, .int (-1), .int 0, .int 0, .ref a7, .ref a8, .ref a9, .ref a10, .int 0, .int 0, .ref a11, .ref a12, .int 0, .int 0, .ref a13, .ref a14, .ref a15, .int 0, .int 0, .ref a16, .ref a17, .ref a18]))] := hD
      refine lv_iconst (v := 1) hx hb dX12_end_24 (by decide) ?_
      exact kt_zret hx hb hr hlocks hP hD hS (by first | rfl | decide | exact rfl) dX12_end_25 [] rfl rfl rfl rfl ⟨1, rfl, rfl, (by simp [sp_end, c_1, c_2])⟩
    · refine lv_iconst (v := 0) hx hb dX12_end_17 (by decide) ?_
      exact kt_zret hx hb hr hlocks hP hD hS (by first | rfl | decide | exact rfl) dX12_end_18 [] rfl rfl rfl rfl ⟨0, rfl, rfl, (by simp [sp_end, c_1, c_2])⟩
set_option maxHeartbeats 4000000 in
set_option maxRecDepth 100000 in
theorem c_X12_octet (l : Launch) (G : va_G) (cy : Nat → ClassId) (h0 : Nat) (a1 : Nat) (a2 : Nat) (a3 : Nat) (a4 : Nat) (a5 : Nat) (a6 : Nat) (a7 : Nat) (a8 : Nat) (a9 : Nat) (a10 : Nat) (a11 : Nat) (a12 : Nat) (a13 : Nat) (a14 : Nat) (a15 : Nat) (a16 : Nat) (a17 : Nat) (a18 : Nat) (p0 : Int32) : Kt l G cy yX12_octet cX12_octet 2 (some .int) ({ frames := 12, cells := 0, slots := 0, locals := 300 } : Room) [.ref h0, .int p0] [(h0, .inr (11, [.int 0, .ref a1, .int 0, .ref a2, .int 0, .int 0, .int 0, .int 0, .int (-1), .ref a3, .ref a4, .int 0, .int 0, .int 0, .ref a5, .ref a6, .int 0, .int (-1), .int 0, .int 0, .ref a7, .ref a8, .ref a9, .ref a10, .int 0, .int 0, .ref a11, .ref a12, .int 0, .int 0, .ref a13, .ref a14, .ref a15, .int 0, .int 0, .ref a16, .ref a17, .ref a18]))] (fun (v : Option Value) (w1 : va_W) => v = some (.int (-1)) ∧ w1 = []) := by
  refine kt_ofW (by decide) (Nat.le_of_ble_eq_true rfl) ?_
  intro p e s m below meth c A ls hx hb hr hU hown hlocks hml hin hP hK hD hA hS hl
  have hown : s.vm.findClass RX12 = some m.cls := hown
  have hl : lv_has ls 2 [(0, .ref h0), (1, .int p0)] := hl
  refine lv_aload_n hx hb dX12_octet_0 rfl (lv_at hl 0 rfl) ?_
  refine lv_iconst (v := 0) hx hb dX12_octet_1 (by decide) ?_
  refine va_put (D := G) (ci := 11) (v := .int 0) (ty := .int) (C := RX12) (T := TX12) (N := 38) hx hb hU in_X12 tyX12 tyX12_ok nmX12 hown hK.1 hP hD hS 0 rfl rfl 0 (by decide) (hU _ u_1505) (fun _ h9 => h9) rfl (by decide +kernel) rfl rfl (Nat.le_of_ble_eq_true rfl) dX12_octet_2 (fun H locs hP hD hS => ?_)
  have hP : va_P G vwCl [(h0, .inr (11, [.int 0, .ref a1, .int 0, .ref a2, .int 0, .int 0, .int 0, .int 0, .int (-1), .ref a3, .ref a4, .int 0, .int 0, .int 0, .ref a5, .ref a6, .int 0, .int (-1), .int 0, .int 0, .ref a7, .ref a8, .ref a9, .ref a10, .int 0, .int 0, .ref a11, .ref a12, .int 0, .int 0, .ref a13, .ref a14, .ref a15, .int 0, .int 0, .ref a16, .ref a17, .ref a18]))] H := hP
  have hD : va_D A [(h0, .inr (11, [.int 0, .ref a1, .int 0, .ref a2, .int 0, .int 0, .int 0, .int 0, .int (-1), .ref a3, .ref a4, .int 0, .int 0, .int 0, .ref a5, .ref a6, .int 0, .int (-1), .int 0, .int 0, .ref a7, .ref a8, .ref a9, .ref a10, .int 0, .int 0, .ref a11, .ref a12, .int 0, .int 0, .ref a13, .ref a14, .ref a15, .int 0, .int 0, .ref a16, .ref a17, .ref a18]))] := hD
  refine lv_iload_n hx hb dX12_octet_5 rfl (lv_at hl 1 rfl) ?_
  refine lv_iconst (v := 0) hx hb dX12_octet_6 (by decide) ?_
  refine lv_aload_n hx hb dX12_octet_7 rfl (lv_at hl 0 rfl) ?_
  refine va_get (D := G) (ci := 11) (v := .int 0) (C := RX12) (T := TX12) (N := 38) hx hb hU in_X12 hown hK.1 hP 0 rfl rfl 33 (by decide) (hU _ u_1538) (fun _ h9 => h9) rfl dX12_octet_8 ?_
  refine lv_iconst (v := 1) hx hb dX12_octet_11 (by decide) ?_
  refine lv_isub hx hb dX12_octet_12 (lx_top (y := (-1)) (by decide +kernel) ?_)
  refine kt_callS (wc := []) (wr := [(h0, .inr (11, [.int 0, .ref a1, .int 0, .ref a2, .int 0, .int 0, .int 0, .int 0, .int (-1), .ref a3, .ref a4, .int 0, .int 0, .int 0, .ref a5, .ref a6, .int 0, .int (-1), .int 0, .int 0, .ref a7, .ref a8, .ref a9, .ref a10, .int 0, .int 0, .ref a11, .ref a12, .int 0, .int 0, .ref a13, .ref a14, .ref a15, .int 0, .int 0, .ref a16, .ref a17, .ref a18]))]) (As := [.int p0, .int 0, .int (-1)]) (rest := []) (c_X12_in_0 l G cy p0) m_X12_in u_1732 hx hb hml hown hU hl.1 hK hP hD hS hA dX12_octet_13 [] [0] rfl rfl rfl rfl rfl rfl (Nat.le_of_ble_eq_true rfl) (fun v9 w9 H locs hw hP hD hS => ?_)
  obtain ⟨rfl, rfl⟩ := hw
  have hP : va_P G vwCl [(h0, .inr (11, [.int 0, .ref a1, .int 0, .ref a2, .int 0, .int 0, .int 0, .int 0, .int (-1), .ref a3, .ref a4, .int 0, .int 0, .int 0, .ref a5, .ref a6, .int 0, .int (-1), .int 0, .int 0, .ref a7, .ref a8, .ref a9, .ref a10, .int 0, .int 0, .ref a11, .ref a12, .int 0, .int 0, .ref a13, .ref a14, .ref a15, .int 0, .int 0, .ref a16, .ref a17, .ref a18]))] H := hP
  have hD : va_D A [(h0, .inr (11, [.int 0, .ref a1, .int 0, .ref a2, .int 0, .int 0, .int 0, .int 0, .int (-1), .ref a3, .ref a4, .int 0, .int 0, .int 0, .ref a5, .ref a6, .int 0, .int (-1), .int 0, .int 0, .ref a7, .ref a8, .ref a9, .ref a10, .int 0, .int 0, .ref a11, .ref a12, .int 0, .int 0, .ref a13, .ref a14, .ref a15, .int 0, .int 0, .ref a16, .ref a17, .ref a18]))] := hD
  refine W.eq (g2 := F0 m 16 ls [.int 0]) rfl ?_
  refine W.widen (k := 0) (n := 0) (Nat.le_of_ble_eq_true rfl) (Nat.le_of_ble_eq_true rfl) ?_
  refine lv_if_eq (tgt := 28) hx hb dX12_octet_16 (by decide) (fun _ => ?_) (fun c9 => absurd (by decide) c9)
  refine lv_iconst (v := (-1)) hx hb dX12_octet_28 (by decide) ?_
  exact kt_iret hx hb hr hlocks hP hD hS dX12_octet_29 [] rfl rfl rfl rfl ⟨rfl, rfl⟩
set_option maxHeartbeats 4000000 in
set_option maxRecDepth 100000 in
theorem c_X12_core (l : Launch) (G : va_G) (cy : Nat → ClassId) (h0 : Nat) (a1 : Nat) (a2 : Nat) (a3 : Nat) (a4 : Nat) (a5 : Nat) (a6 : Nat) (a7 : Nat) (a8 : Nat) (a9 : Nat) (a10 : Nat) (a11 : Nat) (a12 : Nat) (a13 : Nat) (a14 : Nat) (a15 : Nat) (a16 : Nat) (a17 : Nat) (a18 : Nat) (p0 : Int32) : Kt l G cy yX12_core cX12_core 7 (some .int) ({ frames := 12, cells := 0, slots := 0, locals := 300 } : Room) [.ref h0, .int p0] [(h0, .inr (11, [.int 0, .ref a1, .int 0, .ref a2, .int 0, .int 0, .int 0, .int 0, .int (-1), .ref a3, .ref a4, .int 0, .int 0, .int 0, .ref a5, .ref a6, .int 0, .int (-1), .int 0, .int 0, .ref a7, .ref a8, .ref a9, .ref a10, .int 0, .int 0, .ref a11, .ref a12, .int 0, .int 0, .ref a13, .ref a14, .ref a15, .int 0, .int 0, .ref a16, .ref a17, .ref a18]))] (fun (v : Option Value) (w1 : va_W) => v = some (.int (-1)) ∧ w1 = []) := by
  refine kt_ofW (by decide) (Nat.le_of_ble_eq_true rfl) ?_
  intro p e s m below meth c A ls hx hb hr hU hown hlocks hml hin hP hK hD hA hS hl
  have hown : s.vm.findClass RX12 = some m.cls := hown
  have hl : lv_has ls 7 [(0, .ref h0), (1, .int p0)] := hl
  refine lv_aload_n hx hb dX12_core_0 rfl (lv_at hl 0 rfl) ?_
  refine lv_iconst (v := 0) hx hb dX12_core_1 (by decide) ?_
  refine va_put (D := G) (ci := 11) (v := .int 0) (ty := .int) (C := RX12) (T := TX12) (N := 38) hx hb hU in_X12 tyX12 tyX12_ok nmX12 hown hK.1 hP hD hS 0 rfl rfl 0 (by decide) (hU _ u_1505) (fun _ h9 => h9) rfl (by decide +kernel) rfl rfl (Nat.le_of_ble_eq_true rfl) dX12_core_2 (fun H locs hP hD hS => ?_)
  have hP : va_P G vwCl [(h0, .inr (11, [.int 0, .ref a1, .int 0, .ref a2, .int 0, .int 0, .int 0, .int 0, .int (-1), .ref a3, .ref a4, .int 0, .int 0, .int 0, .ref a5, .ref a6, .int 0, .int (-1), .int 0, .int 0, .ref a7, .ref a8, .ref a9, .ref a10, .int 0, .int 0, .ref a11, .ref a12, .int 0, .int 0, .ref a13, .ref a14, .ref a15, .int 0, .int 0, .ref a16, .ref a17, .ref a18]))] H := hP
  have hD : va_D A [(h0, .inr (11, [.int 0, .ref a1, .int 0, .ref a2, .int 0, .int 0, .int 0, .int 0, .int (-1), .ref a3, .ref a4, .int 0, .int 0, .int 0, .ref a5, .ref a6, .int 0, .int (-1), .int 0, .int 0, .ref a7, .ref a8, .ref a9, .ref a10, .int 0, .int 0, .ref a11, .ref a12, .int 0, .int 0, .ref a13, .ref a14, .ref a15, .int 0, .int 0, .ref a16, .ref a17, .ref a18]))] := hD
  refine lv_iconst (v := 0) hx hb dX12_core_5 (by decide) ?_
  refine lv_istore_n (lv' := [(2, .int 0), (0, .ref h0), (1, .int p0)]) hx hb dX12_core_6 rfl hl (by decide) rfl (fun ls hl => ?_)
  refine lv_iload_n hx hb dX12_core_7 rfl (lv_at hl 0 rfl) ?_
  refine lv_aload_n hx hb dX12_core_8 rfl (lv_at hl 1 rfl) ?_
  refine va_get (D := G) (ci := 11) (v := .int 0) (C := RX12) (T := TX12) (N := 38) hx hb hU in_X12 hown hK.1 hP 0 rfl rfl 11 (by decide) (hU _ u_1516) (fun _ h9 => h9) rfl dX12_core_9 ?_
  refine lv_icmp_ge (tgt := 32) hx hb dX12_core_12 (by decide) (fun _ => ?_) (fun c9 => absurd (by decide) c9)
  refine lv_iconst (v := (-1)) hx hb dX12_core_32 (by decide) ?_
  refine lv_istore_n (lv' := [(2, .int (-1)), (0, .ref h0), (1, .int p0)]) hx hb dX12_core_33 rfl hl (by decide) rfl (fun ls hl => ?_)
  refine lv_iconst (v := 1) hx hb dX12_core_34 (by decide) ?_
  refine lv_istore_n (lv' := [(3, .int 1), (2, .int (-1)), (0, .ref h0), (1, .int p0)]) hx hb dX12_core_35 rfl hl (by decide) rfl (fun ls hl => ?_)
  refine lv_iload_n hx hb dX12_core_36 rfl (lv_at hl 0 rfl) ?_
  refine lv_iconst (v := 1) hx hb dX12_core_37 (by decide) ?_
  refine lv_aload_n hx hb dX12_core_38 rfl (lv_at hl 2 rfl) ?_
  refine va_get (D := G) (ci := 11) (v := .int 0) (C := RX12) (T := TX12) (N := 38) hx hb hU in_X12 hown hK.1 hP 0 rfl rfl 11 (by decide) (hU _ u_1516) (fun _ h9 => h9) rfl dX12_core_39 ?_
  refine lv_ishl hx hb dX12_core_42 (lx_top (y := 1) (by decide +kernel) ?_)
  refine lv_icmp_ge (tgt := 124) hx hb dX12_core_43 (by decide) (fun _ => ?_) (fun c9 => absurd (by decide) c9)
  refine lv_iload_n hx hb dX12_core_124 rfl (lv_at hl 3 rfl) ?_
  refine lv_if_ne (tgt := 133) hx hb dX12_core_125 (by decide) (fun c_1 => ?_) (fun c_1 => ?_)
  · refine lv_iload_n hx hb dX12_core_133 rfl (lv_at hl 1 rfl) ?_
    refine lv_goto (tgt := 141) hx hb dX12_core_134 (by decide) ?_
    exact kt_iret hx hb hr hlocks hP hD hS dX12_core_141 [] rfl rfl rfl rfl ⟨rfl, rfl⟩
  · refine lv_iload_n hx hb dX12_core_128 rfl (lv_at hl 1 rfl) ?_
    refine lv_iconst (v := (-1)) hx hb dX12_core_129 (by decide) ?_
    refine lv_icmp_ne (tgt := 137) hx hb dX12_core_130 (by decide) (fun c9 => absurd (by decide) c9) (fun _ => ?_)
    refine lv_iload_n hx hb dX12_core_133 rfl (lv_at hl 1 rfl) ?_
    refine lv_goto (tgt := 141) hx hb dX12_core_134 (by decide) ?_
    exact kt_iret hx hb hr hlocks hP hD hS dX12_core_141 [] rfl rfl rfl rfl ⟨rfl, rfl⟩
set_option maxHeartbeats 4000000 in
set_option maxRecDepth 100000 in
theorem c_X12_pure (l : Launch) (G : va_G) (cy : Nat → ClassId) (h0 : Nat) (a1 : Nat) (a2 : Nat) (a3 : Nat) (a4 : Nat) (a5 : Nat) (a6 : Nat) (a7 : Nat) (a8 : Nat) (a9 : Nat) (a10 : Nat) (a11 : Nat) (a12 : Nat) (a13 : Nat) (a14 : Nat) (a15 : Nat) (a16 : Nat) (a17 : Nat) (a18 : Nat) (p0 : Int32) : Kt l G cy yX12_pure cX12_pure 6 (some .int) ({ frames := 12, cells := 0, slots := 0, locals := 300 } : Room) [.ref h0, .int p0] [(h0, .inr (11, [.int 0, .ref a1, .int 0, .ref a2, .int 0, .int 0, .int 0, .int 0, .int (-1), .ref a3, .ref a4, .int 0, .int 0, .int 0, .ref a5, .ref a6, .int 0, .int (-1), .int 0, .int 0, .ref a7, .ref a8, .ref a9, .ref a10, .int 0, .int 0, .ref a11, .ref a12, .int 0, .int 0, .ref a13, .ref a14, .ref a15, .int 0, .int 0, .ref a16, .ref a17, .ref a18]))] (fun (v : Option Value) (w1 : va_W) => v = some (.int 0) ∧ w1 = []) := by
  refine kt_ofW (by decide) (Nat.le_of_ble_eq_true rfl) ?_
  intro p e s m below meth c A ls hx hb hr hU hown hlocks hml hin hP hK hD hA hS hl
  have hown : s.vm.findClass RX12 = some m.cls := hown
  have hl : lv_has ls 6 [(0, .ref h0), (1, .int p0)] := hl
  refine lv_aload_n hx hb dX12_pure_0 rfl (lv_at hl 0 rfl) ?_
  refine lv_iconst (v := 0) hx hb dX12_pure_1 (by decide) ?_
  refine va_put (D := G) (ci := 11) (v := .int 0) (ty := .int) (C := RX12) (T := TX12) (N := 38) hx hb hU in_X12 tyX12 tyX12_ok nmX12 hown hK.1 hP hD hS 0 rfl rfl 0 (by decide) (hU _ u_1505) (fun _ h9 => h9) rfl (by decide +kernel) rfl rfl (Nat.le_of_ble_eq_true rfl) dX12_pure_2 (fun H locs hP hD hS => ?_)
  have hP : va_P G vwCl [(h0, .inr (11, [.int 0, .ref a1, .int 0, .ref a2, .int 0, .int 0, .int 0, .int 0, .int (-1), .ref a3, .ref a4, .int 0, .int 0, .int 0, .ref a5, .ref a6, .int 0, .int (-1), .int 0, .int 0, .ref a7, .ref a8, .ref a9, .ref a10, .int 0, .int 0, .ref a11, .ref a12, .int 0, .int 0, .ref a13, .ref a14, .ref a15, .int 0, .int 0, .ref a16, .ref a17, .ref a18]))] H := hP
  have hD : va_D A [(h0, .inr (11, [.int 0, .ref a1, .int 0, .ref a2, .int 0, .int 0, .int 0, .int 0, .int (-1), .ref a3, .ref a4, .int 0, .int 0, .int 0, .ref a5, .ref a6, .int 0, .int (-1), .int 0, .int 0, .ref a7, .ref a8, .ref a9, .ref a10, .int 0, .int 0, .ref a11, .ref a12, .int 0, .int 0, .ref a13, .ref a14, .ref a15, .int 0, .int 0, .ref a16, .ref a17, .ref a18]))] := hD
  refine lv_iconst (v := 0) hx hb dX12_pure_5 (by decide) ?_
  refine lv_istore_n (lv' := [(2, .int 0), (0, .ref h0), (1, .int p0)]) hx hb dX12_pure_6 rfl hl (by decide) rfl (fun ls hl => ?_)
  refine lv_iconst (v := 0) hx hb dX12_pure_7 (by decide) ?_
  refine lv_istore_n (lv' := [(3, .int 0), (2, .int 0), (0, .ref h0), (1, .int p0)]) hx hb dX12_pure_8 rfl hl (by decide) rfl (fun ls hl => ?_)
  refine lv_iconst (v := 0) hx hb dX12_pure_9 (by decide) ?_
  refine lv_istore (lv' := [(4, .int 0), (3, .int 0), (2, .int 0), (0, .ref h0), (1, .int p0)]) hx hb dX12_pure_10 hl (by decide) rfl (fun ls hl => ?_)
  refine lv_iload hx hb dX12_pure_12 (lv_at hl 0 rfl) ?_
  refine lv_aload_n hx hb dX12_pure_14 rfl (lv_at hl 3 rfl) ?_
  refine va_get (D := G) (ci := 11) (v := .int 0) (C := RX12) (T := TX12) (N := 38) hx hb hU in_X12 hown hK.1 hP 0 rfl rfl 11 (by decide) (hU _ u_1516) (fun _ h9 => h9) rfl dX12_pure_15 ?_
  refine lv_icmp_ge (tgt := 93) hx hb dX12_pure_18 (by decide) (fun _ => ?_) (fun c9 => absurd (by decide) c9)
  refine lv_iload_n hx hb dX12_pure_93 rfl (lv_at hl 4 rfl) ?_
  refine lv_if_eq (tgt := 105) hx hb dX12_pure_94 (by decide) (fun c_1 => ?_) (fun c_1 => ?_)
  · refine lv_iload_n hx hb dX12_pure_105 rfl (lv_at hl 2 rfl) ?_
    refine lv_iload_n hx hb dX12_pure_106 rfl (lv_at hl 1 rfl) ?_
    refine lv_iconst (v := (-1)) hx hb dX12_pure_107 (by decide) ?_
    refine lv_ixor hx hb dX12_pure_108 (lx_top (y := (-1)) (by decide +kernel) ?_)
    refine lv_iand hx hb dX12_pure_109 (lx_top (y := 0) (by decide +kernel) ?_)
    exact kt_iret hx hb hr hlocks hP hD hS dX12_pure_110 [] rfl rfl rfl rfl ⟨rfl, rfl⟩
  · refine lv_iload_n hx hb dX12_pure_97 rfl (lv_at hl 1 rfl) ?_
    refine lv_iload_n hx hb dX12_pure_98 rfl (lv_at hl 2 rfl) ?_
    refine lv_iconst (v := (-1)) hx hb dX12_pure_99 (by decide) ?_
    refine lv_ixor hx hb dX12_pure_100 (lx_top (y := (-1)) (by decide +kernel) ?_)
    refine lv_iand hx hb dX12_pure_101 (lx_top (y := 0) (by decide +kernel) ?_)
    refine lv_goto (tgt := 110) hx hb dX12_pure_102 (by decide) ?_
    exact kt_iret hx hb hr hlocks hP hD hS dX12_pure_110 [] rfl rfl rfl rfl ⟨rfl, rfl⟩
set_option maxHeartbeats 4000000 in
set_option maxRecDepth 100000 in
theorem c_X12_pebbledBy (l : Launch) (G : va_G) (cy : Nat → ClassId) (h0 : Nat) (a1 : Nat) (a2 : Nat) (a3 : Nat) (a4 : Nat) (a5 : Nat) (a6 : Nat) (a7 : Nat) (a8 : Nat) (a9 : Nat) (a10 : Nat) (a11 : Nat) (a12 : Nat) (a13 : Nat) (a14 : Nat) (a15 : Nat) (a16 : Nat) (a17 : Nat) (a18 : Nat) (p0 : Int32) : Kt l G cy yX12_pebbledBy cX12_pebbledBy 8 (some .int) ({ frames := 10, cells := 0, slots := 0, locals := 200 } : Room) [.ref h0, .int p0] [(h0, .inr (11, [.int 0, .ref a1, .int 0, .ref a2, .int 0, .int 0, .int 0, .int 0, .int (-1), .ref a3, .ref a4, .int 0, .int 0, .int 0, .ref a5, .ref a6, .int 0, .int (-1), .int 0, .int 0, .ref a7, .ref a8, .ref a9, .ref a10, .int 0, .int 0, .ref a11, .ref a12, .int 0, .int 0, .ref a13, .ref a14, .ref a15, .int 0, .int 0, .ref a16, .ref a17, .ref a18]))] (fun (v : Option Value) (w1 : va_W) => v = some (.int (-1)) ∧ w1 = [(h0, .inr (11, [.int 0, .ref a1, .int 0, .ref a2, .int 0, .int 0, .int 0, .int 0, .int (-1), .ref a3, .ref a4, .int 0, .int 0, .int 0, .ref a5, .ref a6, .int 0, .int (-1), .int 0, .int 0, .ref a7, .ref a8, .ref a9, .ref a10, .int 0, .int 0, .ref a11, .ref a12, .int 0, .int 0, .ref a13, .ref a14, .ref a15, .int 0, .int 0, .ref a16, .ref a17, .ref a18]))]) := by
  refine kt_ofW (by decide) (Nat.le_of_ble_eq_true rfl) ?_
  intro p e s m below meth c A ls hx hb hr hU hown hlocks hml hin hP hK hD hA hS hl
  have hown : s.vm.findClass RX12 = some m.cls := hown
  have hl : lv_has ls 8 [(0, .ref h0), (1, .int p0)] := hl
  refine lv_aload_n hx hb dX12_pebbledBy_0 rfl (lv_at hl 0 rfl) ?_
  refine va_get (D := G) (ci := 11) (v := .int (-1)) (C := RX12) (T := TX12) (N := 38) hx hb hU in_X12 hown hK.1 hP 0 rfl rfl 17 (by decide) (hU _ u_1522) (fun _ h9 => h9) rfl dX12_pebbledBy_1 ?_
  refine lv_iconst (v := (-1)) hx hb dX12_pebbledBy_4 (by decide) ?_
  refine lv_icmp_ne (tgt := 10) hx hb dX12_pebbledBy_5 (by decide) (fun c9 => absurd (by decide) c9) (fun _ => ?_)
  refine lv_iconst (v := (-1)) hx hb dX12_pebbledBy_8 (by decide) ?_
  exact kt_iret hx hb hr hlocks hP hD hS dX12_pebbledBy_9 [0] rfl rfl rfl rfl ⟨rfl, rfl⟩
set_option maxHeartbeats 4000000 in
set_option maxRecDepth 100000 in
theorem c_X12_pebbles (l : Launch) (G : va_G) (cy : Nat → ClassId) (h0 : Nat) (a1 : Nat) (a2 : Nat) (a3 : Nat) (a4 : Nat) (a5 : Nat) (a6 : Nat) (a7 : Nat) (a8 : Nat) (a9 : Nat) (a10 : Nat) (a11 : Nat) (a12 : Nat) (a13 : Nat) (a14 : Nat) (a15 : Nat) (a16 : Nat) (a17 : Nat) (a18 : Nat) : Kt l G cy yX12_pebbles cX12_pebbles 2 (some .int) ({ frames := 12, cells := 0, slots := 0, locals := 300 } : Room) [.ref h0] [(h0, .inr (11, [.int 0, .ref a1, .int 0, .ref a2, .int 0, .int 0, .int 0, .int 0, .int (-1), .ref a3, .ref a4, .int 0, .int 0, .int 0, .ref a5, .ref a6, .int 0, .int (-1), .int 0, .int 0, .ref a7, .ref a8, .ref a9, .ref a10, .int 0, .int 0, .ref a11, .ref a12, .int 0, .int 0, .ref a13, .ref a14, .ref a15, .int 0, .int 0, .ref a16, .ref a17, .ref a18]))] (fun (v : Option Value) (w1 : va_W) => v = some (.int (-1)) ∧ w1 = []) := by
  refine kt_ofW (by decide) (Nat.le_of_ble_eq_true rfl) ?_
  intro p e s m below meth c A ls hx hb hr hU hown hlocks hml hin hP hK hD hA hS hl
  have hown : s.vm.findClass RX12 = some m.cls := hown
  have hl : lv_has ls 2 [(0, .ref h0)] := hl
  refine lv_aload_n hx hb dX12_pebbles_0 rfl (lv_at hl 0 rfl) ?_
  refine lv_iconst (v := 0) hx hb dX12_pebbles_1 (by decide) ?_
  refine va_put (D := G) (ci := 11) (v := .int 0) (ty := .int) (C := RX12) (T := TX12) (N := 38) hx hb hU in_X12 tyX12 tyX12_ok nmX12 hown hK.1 hP hD hS 0 rfl rfl 0 (by decide) (hU _ u_1505) (fun _ h9 => h9) rfl (by decide +kernel) rfl rfl (Nat.le_of_ble_eq_true rfl) dX12_pebbles_2 (fun H locs hP hD hS => ?_)
  have hP : va_P G vwCl [(h0, .inr (11, [.int 0, .ref a1, .int 0, .ref a2, .int 0, .int 0, .int 0, .int 0, .int (-1), .ref a3, .ref a4, .int 0, .int 0, .int 0, .ref a5, .ref a6, .int 0, .int (-1), .int 0, .int 0, .ref a7, .ref a8, .ref a9, .ref a10, .int 0, .int 0, .ref a11, .ref a12, .int 0, .int 0, .ref a13, .ref a14, .ref a15, .int 0, .int 0, .ref a16, .ref a17, .ref a18]))] H := hP
  have hD : va_D A [(h0, .inr (11, [.int 0, .ref a1, .int 0, .ref a2, .int 0, .int 0, .int 0, .int 0, .int (-1), .ref a3, .ref a4, .int 0, .int 0, .int 0, .ref a5, .ref a6, .int 0, .int (-1), .int 0, .int 0, .ref a7, .ref a8, .ref a9, .ref a10, .int 0, .int 0, .ref a11, .ref a12, .int 0, .int 0, .ref a13, .ref a14, .ref a15, .int 0, .int 0, .ref a16, .ref a17, .ref a18]))] := hD
  refine lv_iconst (v := 0) hx hb dX12_pebbles_5 (by decide) ?_
  refine lv_istore_n (lv' := [(1, .int 0), (0, .ref h0)]) hx hb dX12_pebbles_6 rfl hl (by decide) rfl (fun ls hl => ?_)
  refine lv_iload_n hx hb dX12_pebbles_7 rfl (lv_at hl 0 rfl) ?_
  refine lv_bipush (v := 6) hx hb dX12_pebbles_8 (by decide) ?_
  refine lv_icmp_gt (tgt := 38) hx hb dX12_pebbles_10 (by decide) (fun c9 => absurd c9 (by decide)) (fun _ => ?_)
  refine lv_aload_n hx hb dX12_pebbles_13 rfl (lv_at hl 1 rfl) ?_
  refine va_get (D := G) (ci := 11) (v := .int (-1)) (C := RX12) (T := TX12) (N := 38) hx hb hU in_X12 hown hK.1 hP 0 rfl rfl 17 (by decide) (hU _ u_1522) (fun _ h9 => h9) rfl dX12_pebbles_14 ?_
  refine lv_iconst (v := (-1)) hx hb dX12_pebbles_17 (by decide) ?_
  refine lv_icmp_eq (tgt := 38) hx hb dX12_pebbles_18 (by decide) (fun _ => ?_) (fun c9 => absurd (by decide) c9)
  refine lv_iconst (v := (-1)) hx hb dX12_pebbles_38 (by decide) ?_
  exact kt_iret hx hb hr hlocks hP hD hS dX12_pebbles_39 [] rfl rfl rfl rfl ⟨rfl, rfl⟩
