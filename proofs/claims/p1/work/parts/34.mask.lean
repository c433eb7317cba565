set_option maxHeartbeats 4000000 in
set_option maxRecDepth 100000 in
theorem c_X12_pebbled (l : Launch) (G : va_G) (cy : Nat → ClassId) (h0 : Nat) (a1 : Nat) (a2 : Nat) (a3 : Nat) (a4 : Nat) (a5 : Nat) (a6 : Nat) (a7 : Nat) (a8 : Nat) (a9 : Nat) (a10 : Nat) (a11 : Nat) (a12 : Nat) (a13 : Nat) (a14 : Nat) (a15 : Nat) (a16 : Nat) (a17 : Nat) (a18 : Nat) (p0 : Int32) : Kt l G cy yX12_pebbled cX12_pebbled 2 (some .int) ({ frames := 12, cells := 0, slots := 0, locals := 300 } : Room) [.ref h0, .int p0] [(h0, .inr (11, [.int 0, .ref a1, .int 0, .ref a2, .int 0, .int 0, .int 0, .int 0, .int (-1), .ref a3, .ref a4, .int 0, .int 0, .int 0, .ref a5, .ref a6, .int 0, .int (-1), .int 0, .int 0, .ref a7, .ref a8, .ref a9, .ref a10, .int 0, .int 0, .ref a11, .ref a12, .int 0, .int 0, .ref a13, .ref a14, .ref a15, .int 0, .int 0, .ref a16, .ref a17, .ref a18]))] (fun (v : Option Value) (w1 : va_W) => ∃ (t : Int32), ∃ (r : Int32), v = some (.int r) ∧ w1 = [(h0, .inr (11, [.int t, .ref a1, .int 0, .ref a2, .int 0, .int 0, .int 0, .int 0, .int (-1), .ref a3, .ref a4, .int 0, .int 0, .int 0, .ref a5, .ref a6, .int 0, .int (-1), .int 0, .int 0, .ref a7, .ref a8, .ref a9, .ref a10, .int 0, .int 0, .ref a11, .ref a12, .int 0, .int 0, .ref a13, .ref a14, .ref a15, .int 0, .int 0, .ref a16, .ref a17, .ref a18]))] ∧ ((t = 1 ∧ ¬ okWidth p0) ∨ (t = 0 ∧ okWidth p0 ∧ r = (-1)))) := by
  refine kt_ofW (by decide) (Nat.le_of_ble_eq_true rfl) ?_
  intro p e s m below meth c A ls hx hb hr hU hown hlocks hml hin hP hK hD hA hS hl
  have hown : s.vm.findClass RX12 = some m.cls := hown
  have hl : lv_has ls 2 [(0, .ref h0), (1, .int p0)] := hl
  refine lv_aload_n hx hb dX12_pebbled_0 rfl (lv_at hl 0 rfl) ?_
  refine lv_iconst (v := 0) hx hb dX12_pebbled_1 (by decide) ?_
  refine va_put (D := G) (ci := 11) (v := .int 0) (ty := .int) (C := RX12) (T := TX12) (N := 38) hx hb hU in_X12 tyX12 tyX12_ok nmX12 hown hK.1 hP hD hS 0 rfl rfl 0 (by decide) (hU _ u_1505) (fun _ h9 => h9) rfl (by decide +kernel) rfl rfl (Nat.le_of_ble_eq_true rfl) dX12_pebbled_2 (fun H locs hP hD hS => ?_)
  have hP : va_P G vwCl [(h0, .inr (11, [.int 0, .ref a1, .int 0, .ref a2, .int 0, .int 0, .int 0, .int 0, .int (-1), .ref a3, .ref a4, .int 0, .int 0, .int 0, .ref a5, .ref a6, .int 0, .int (-1), .int 0, .int 0, .ref a7, .ref a8, .ref a9, .ref a10, .int 0, .int 0, .ref a11, .ref a12, .int 0, .int 0, .ref a13, .ref a14, .ref a15, .int 0, .int 0, .ref a16, .ref a17, .ref a18]))] H := hP
  have hD : va_D A [(h0, .inr (11, [.int 0, .ref a1, .int 0, .ref a2, .int 0, .int 0, .int 0, .int 0, .int (-1), .ref a3, .ref a4, .int 0, .int 0, .int 0, .ref a5, .ref a6, .int 0, .int (-1), .int 0, .int 0, .ref a7, .ref a8, .ref a9, .ref a10, .int 0, .int 0, .ref a11, .ref a12, .int 0, .int 0, .ref a13, .ref a14, .ref a15, .int 0, .int 0, .ref a16, .ref a17, .ref a18]))] := hD
  refine lv_aload_n hx hb dX12_pebbled_5 rfl (lv_at hl 0 rfl) ?_
  refine lv_iload_n hx hb dX12_pebbled_6 rfl (lv_at hl 1 rfl) ?_
  refine lv_iconst (v := 0) hx hb dX12_pebbled_7 (by decide) ?_
  refine lv_bipush (v := 6) hx hb dX12_pebbled_8 (by decide) ?_
  refine kt_callS (wc := []) (wr := [(h0, .inr (11, [.int 0, .ref a1, .int 0, .ref a2, .int 0, .int 0, .int 0, .int 0, .int (-1), .ref a3, .ref a4, .int 0, .int 0, .int 0, .ref a5, .ref a6, .int 0, .int (-1), .int 0, .int 0, .ref a7, .ref a8, .ref a9, .ref a10, .int 0, .int 0, .ref a11, .ref a12, .int 0, .int 0, .ref a13, .ref a14, .ref a15, .int 0, .int 0, .ref a16, .ref a17, .ref a18]))]) (As := [.int p0, .int 0, .int 6]) (rest := [.ref h0]) (c_X12_in l G cy p0 0 6) m_X12_in u_1732 hx hb hml hown hU hl.1 hK hP hD hS hA dX12_pebbled_10 [] [0] rfl rfl rfl rfl rfl rfl (Nat.le_of_ble_eq_true rfl) (fun v9 w9 H locs hw hP hD hS => ?_)
  obtain ⟨x_1, rfl, rfl, hp_2⟩ := hw
  rcases hp_2 with ⟨rfl, hp_2b⟩ | ⟨rfl, hp_2b⟩
  · have hP : va_P G vwCl [(h0, .inr (11, [.int 0, .ref a1, .int 0, .ref a2, .int 0, .int 0, .int 0, .int 0, .int (-1), .ref a3, .ref a4, .int 0, .int 0, .int 0, .ref a5, .ref a6, .int 0, .int (-1), .int 0, .int 0, .ref a7, .ref a8, .ref a9, .ref a10, .int 0, .int 0, .ref a11, .ref a12, .int 0, .int 0, .ref a13, .ref a14, .ref a15, .int 0, .int 0, .ref a16, .ref a17, .ref a18]))] H := hP
    have hD : va_D A [(h0, .inr (11, [.int 0, .ref a1, .int 0, .ref a2, .int 0, .int 0, .int 0, .int 0, .int (-1), .ref a3, .ref a4, .int 0, .int 0, .int 0, .ref a5, .ref a6, .int 0, .int (-1), .int 0, .int 0, .ref a7, .ref a8, .ref a9, .ref a10, .int 0, .int 0, .ref a11, .ref a12, .int 0, .int 0, .ref a13, .ref a14, .ref a15, .int 0, .int 0, .ref a16, .ref a17, .ref a18]))] := hD
    refine W.eq (g2 := F0 m 13 ls [.int 1, .ref h0]) rfl ?_
    refine W.widen (k := 0) (n := 0) (Nat.le_of_ble_eq_true rfl) (Nat.le_of_ble_eq_true rfl) ?_
    refine lv_if_ne (tgt := 20) hx hb dX12_pebbled_13 (by decide) (fun _ => ?_) (fun c9 => absurd c9 (by decide))
    refine lv_iconst (v := 0) hx hb dX12_pebbled_20 (by decide) ?_
    refine lv_iconst (v := 1) hx hb dX12_pebbled_21 (by decide) ?_
    refine kt_callV (wc := [(h0, .inr (11, [.int 0, .ref a1, .int 0, .ref a2, .int 0, .int 0, .int 0, .int 0, .int (-1), .ref a3, .ref a4, .int 0, .int 0, .int 0, .ref a5, .ref a6, .int 0, .int (-1), .int 0, .int 0, .ref a7, .ref a8, .ref a9, .ref a10, .int 0, .int 0, .ref a11, .ref a12, .int 0, .int 0, .ref a13, .ref a14, .ref a15, .int 0, .int 0, .ref a16, .ref a17, .ref a18]))]) (wr := []) (As := [.int 0, .int 1]) (rest := []) (c_X12_throwsIf_0 l G cy h0 a1 a2 a3 a4 a5 a6 a7 a8 a9 a10 a11 a12 a13 a14 a15 a16 a17 a18 1) m_X12_throwsIf u_1752 hx hb hml hown hU hl.1 hK hP hD hS hA dX12_pebbled_22 [0] [] rfl rfl rfl rfl rfl rfl (Nat.le_of_ble_eq_true rfl) (ci := 11) rfl rfl rfl (fun v9 w9 H locs hw hP hD hS => ?_)
    obtain ⟨rfl, rfl⟩ := hw
    have hP : va_P G vwCl [(h0, .inr (11, [.int 0, .ref a1, .int 0, .ref a2, .int 0, .int 0, .int 0, .int 0, .int (-1), .ref a3, .ref a4, .int 0, .int 0, .int 0, .ref a5, .ref a6, .int 0, .int (-1), .int 0, .int 0, .ref a7, .ref a8, .ref a9, .ref a10, .int 0, .int 0, .ref a11, .ref a12, .int 0, .int 0, .ref a13, .ref a14, .ref a15, .int 0, .int 0, .ref a16, .ref a17, .ref a18]))] H := hP
    have hD : va_D A [(h0, .inr (11, [.int 0, .ref a1, .int 0, .ref a2, .int 0, .int 0, .int 0, .int 0, .int (-1), .ref a3, .ref a4, .int 0, .int 0, .int 0, .ref a5, .ref a6, .int 0, .int (-1), .int 0, .int 0, .ref a7, .ref a8, .ref a9, .ref a10, .int 0, .int 0, .ref a11, .ref a12, .int 0, .int 0, .ref a13, .ref a14, .ref a15, .int 0, .int 0, .ref a16, .ref a17, .ref a18]))] := hD
    refine W.eq (g2 := F0 m 25 ls [.int 0]) rfl ?_
    refine W.widen (k := 0) (n := 0) (Nat.le_of_ble_eq_true rfl) (Nat.le_of_ble_eq_true rfl) ?_
    refine lv_if_eq (tgt := 30) hx hb dX12_pebbled_25 (by decide) (fun _ => ?_) (fun c9 => absurd (by decide) c9)
    refine lv_aload_n hx hb dX12_pebbled_30 rfl (lv_at hl 0 rfl) ?_
    refine lv_iload_n hx hb dX12_pebbled_31 rfl (lv_at hl 1 rfl) ?_
    refine kt_callV (wc := [(h0, .inr (11, [.int 0, .ref a1, .int 0, .ref a2, .int 0, .int 0, .int 0, .int 0, .int (-1), .ref a3, .ref a4, .int 0, .int 0, .int 0, .ref a5, .ref a6, .int 0, .int (-1), .int 0, .int 0, .ref a7, .ref a8, .ref a9, .ref a10, .int 0, .int 0, .ref a11, .ref a12, .int 0, .int 0, .ref a13, .ref a14, .ref a15, .int 0, .int 0, .ref a16, .ref a17, .ref a18]))]) (wr := []) (As := [.int p0]) (rest := []) (c_X12_pebbledBy l G cy h0 a1 a2 a3 a4 a5 a6 a7 a8 a9 a10 a11 a12 a13 a14 a15 a16 a17 a18 p0) m_X12_pebbledBy u_1999 hx hb hml hown hU hl.1 hK hP hD hS hA dX12_pebbled_32 [0] [] rfl rfl rfl rfl rfl rfl (Nat.le_of_ble_eq_true rfl) (ci := 11) rfl rfl rfl (fun v9 w9 H locs hw hP hD hS => ?_)
    obtain ⟨rfl, rfl⟩ := hw
    have hP : va_P G vwCl [(h0, .inr (11, [.int 0, .ref a1, .int 0, .ref a2, .int 0, .int 0, .int 0, .int 0, .int (-1), .ref a3, .ref a4, .int 0, .int 0, .int 0, .ref a5, .ref a6, .int 0, .int (-1), .int 0, .int 0, .ref a7, .ref a8, .ref a9, .ref a10, .int 0, .int 0, .ref a11, .ref a12, .int 0, .int 0, .ref a13, .ref a14, .ref a15, .int 0, .int 0, .ref a16, .ref a17, .ref a18]))] H := hP
    have hD : va_D A [(h0, .inr (11, [.int 0, .ref a1, .int 0, .ref a2, .int 0, .int 0, .int 0, .int 0, .int (-1), .ref a3, .ref a4, .int 0, .int 0, .int 0, .ref a5, .ref a6, .int 0, .int (-1), .int 0, .int 0, .ref a7, .ref a8, .ref a9, .ref a10, .int 0, .int 0, .ref a11, .ref a12, .int 0, .int 0, .ref a13, .ref a14, .ref a15, .int 0, .int 0, .ref a16, .ref a17, .ref a18]))] := hD
    refine W.eq (g2 := F0 m 35 ls [.int (-1)]) rfl ?_
    refine W.widen (k := 0) (n := 0) (Nat.le_of_ble_eq_true rfl) (Nat.le_of_ble_eq_true rfl) ?_
    exact kt_iret hx hb hr hlocks hP hD hS dX12_pebbled_35 [0] rfl rfl rfl rfl ⟨0, (-1), rfl, rfl, (Or.inr ⟨rfl, by unfold okWidth; assumption, rfl⟩)⟩
  · have hP : va_P G vwCl [(h0, .inr (11, [.int 0, .ref a1, .int 0, .ref a2, .int 0, .int 0, .int 0, .int 0, .int (-1), .ref a3, .ref a4, .int 0, .int 0, .int 0, .ref a5, .ref a6, .int 0, .int (-1), .int 0, .int 0, .ref a7, .ref a8, .ref a9, .ref a10, .int 0, .int 0, .ref a11, .ref a12, .int 0, .int 0, .ref a13, .ref a14, .ref a15, .int 0, .int 0, .ref a16, .ref a17, .ref a18]))] H := hP
    have hD : va_D A [(h0, .inr (11, [.int 0, .ref a1, .int 0, .ref a2, .int 0, .int 0, .int 0, .int 0, .int (-1), .ref a3, .ref a4, .int 0, .int 0, .int 0, .ref a5, .ref a6, .int 0, .int (-1), .int 0, .int 0, .ref a7, .ref a8, .ref a9, .ref a10, .int 0, .int 0, .ref a11, .ref a12, .int 0, .int 0, .ref a13, .ref a14, .ref a15, .int 0, .int 0, .ref a16, .ref a17, .ref a18]))] := hD
    refine W.eq (g2 := F0 m 13 ls [.int 0, .ref h0]) rfl ?_
    refine W.widen (k := 0) (n := 0) (Nat.le_of_ble_eq_true rfl) (Nat.le_of_ble_eq_true rfl) ?_
    refine lv_if_ne (tgt := 20) hx hb dX12_pebbled_13 (by decide) (fun c9 => absurd (by decide) c9) (fun _ => ?_)
    refine lv_iconst (v := 1) hx hb dX12_pebbled_16 (by decide) ?_
    refine lv_goto (tgt := 21) hx hb dX12_pebbled_17 (by decide) ?_
    refine lv_iconst (v := 1) hx hb dX12_pebbled_21 (by decide) ?_
    refine kt_callV (wc := [(h0, .inr (11, [.int 0, .ref a1, .int 0, .ref a2, .int 0, .int 0, .int 0, .int 0, .int (-1), .ref a3, .ref a4, .int 0, .int 0, .int 0, .ref a5, .ref a6, .int 0, .int (-1), .int 0, .int 0, .ref a7, .ref a8, .ref a9, .ref a10, .int 0, .int 0, .ref a11, .ref a12, .int 0, .int 0, .ref a13, .ref a14, .ref a15, .int 0, .int 0, .ref a16, .ref a17, .ref a18]))]) (wr := []) (As := [.int 1, .int 1]) (rest := []) (c_X12_throwsIf_1 l G cy h0 a1 a2 a3 a4 a5 a6 a7 a8 a9 a10 a11 a12 a13 a14 a15 a16 a17 a18 1) m_X12_throwsIf u_1752 hx hb hml hown hU hl.1 hK hP hD hS hA dX12_pebbled_22 [0] [] rfl rfl rfl rfl rfl rfl (Nat.le_of_ble_eq_true rfl) (ci := 11) rfl rfl rfl (fun v9 w9 H locs hw hP hD hS => ?_)
    obtain ⟨rfl, rfl⟩ := hw
    have hP : va_P G vwCl [(h0, .inr (11, [.int 1, .ref a1, .int 0, .ref a2, .int 0, .int 0, .int 0, .int 0, .int (-1), .ref a3, .ref a4, .int 0, .int 0, .int 0, .ref a5, .ref a6, .int 0, .int (-1), .int 0, .int 0, .ref a7, .ref a8, .ref a9, .ref a10, .int 0, .int 0, .ref a11, .ref a12, .int 0, .int 0, .ref a13, .ref a14, .ref a15, .int 0, .int 0, .ref a16, .ref a17, .ref a18]))] H := hP
    have hD : va_D A [(h0, .inr (11, [.int 1, .ref a1, .int 0, .ref a2, .int 0, .int 0, .int 0, .int 0, .int (-1), .ref a3, .ref a4, .int 0, .int 0, .int 0, .ref a5, .ref a6, .int 0, .int (-1), .int 0, .int 0, .ref a7, .ref a8, .ref a9, .ref a10, .int 0, .int 0, .ref a11, .ref a12, .int 0, .int 0, .ref a13, .ref a14, .ref a15, .int 0, .int 0, .ref a16, .ref a17, .ref a18]))] := hD
    refine W.eq (g2 := F0 m 25 ls [.int 1]) rfl ?_
    refine W.widen (k := 0) (n := 0) (Nat.le_of_ble_eq_true rfl) (Nat.le_of_ble_eq_true rfl) ?_
    refine lv_if_eq (tgt := 30) hx hb dX12_pebbled_25 (by decide) (fun c9 => absurd c9 (by decide)) (fun _ => ?_)
    refine lv_iconst (v := 0) hx hb dX12_pebbled_28 (by decide) ?_
    exact kt_iret hx hb hr hlocks hP hD hS dX12_pebbled_29 [0] rfl rfl rfl rfl ⟨1, 0, rfl, rfl, (Or.inl ⟨rfl, by unfold okWidth; assumption⟩)⟩
set_option maxHeartbeats 4000000 in
set_option maxRecDepth 100000 in
theorem c_X12_stands (l : Launch) (G : va_G) (cy : Nat → ClassId) (h0 : Nat) (a1 : Nat) (a2 : Nat) (a3 : Nat) (a4 : Nat) (a5 : Nat) (a6 : Nat) (a7 : Nat) (a8 : Nat) (a9 : Nat) (a10 : Nat) (a11 : Nat) (a12 : Nat) (a13 : Nat) (a14 : Nat) (a15 : Nat) (a16 : Nat) (a17 : Nat) (a18 : Nat) (p0 : Int32) (p1 : Int32) : Kt l G cy yX12_stands cX12_stands 5 (some .int) ({ frames := 12, cells := 0, slots := 0, locals := 300 } : Room) [.ref h0, .int p0, .int p1] [(h0, .inr (11, [.int 0, .ref a1, .int 0, .ref a2, .int 0, .int 0, .int 0, .int 0, .int (-1), .ref a3, .ref a4, .int 0, .int 0, .int 0, .ref a5, .ref a6, .int 0, .int (-1), .int 0, .int 0, .ref a7, .ref a8, .ref a9, .ref a10, .int 0, .int 0, .ref a11, .ref a12, .int 0, .int 0, .ref a13, .ref a14, .ref a15, .int 0, .int 0, .ref a16, .ref a17, .ref a18]))] (fun (v : Option Value) (w1 : va_W) => ∃ (t : Int32), ∃ (r : Int32), v = some (.int r) ∧ w1 = [(h0, .inr (11, [.int t, .ref a1, .int 0, .ref a2, .int 0, .int 0, .int 0, .int 0, .int (-1), .ref a3, .ref a4, .int 0, .int 0, .int 0, .ref a5, .ref a6, .int 0, .int (-1), .int 0, .int 0, .ref a7, .ref a8, .ref a9, .ref a10, .int 0, .int 0, .ref a11, .ref a12, .int 0, .int 0, .ref a13, .ref a14, .ref a15, .int 0, .int 0, .ref a16, .ref a17, .ref a18]))] ∧ ((t = 1 ∧ ¬ okVar p0) ∨ (t = 0 ∧ okVar p0 ∧ r = 0))) := by
  refine kt_ofW (by decide) (Nat.le_of_ble_eq_true rfl) ?_
  intro p e s m below meth c A ls hx hb hr hU hown hlocks hml hin hP hK hD hA hS hl
  have hown : s.vm.findClass RX12 = some m.cls := hown
  have hl : lv_has ls 5 [(0, .ref h0), (1, .int p0), (2, .int p1)] := hl
  refine lv_aload_n hx hb dX12_stands_0 rfl (lv_at hl 0 rfl) ?_
  refine lv_iconst (v := 0) hx hb dX12_stands_1 (by decide) ?_
  refine va_put (D := G) (ci := 11) (v := .int 0) (ty := .int) (C := RX12) (T := TX12) (N := 38) hx hb hU in_X12 tyX12 tyX12_ok nmX12 hown hK.1 hP hD hS 0 rfl rfl 0 (by decide) (hU _ u_1505) (fun _ h9 => h9) rfl (by decide +kernel) rfl rfl (Nat.le_of_ble_eq_true rfl) dX12_stands_2 (fun H locs hP hD hS => ?_)
  have hP : va_P G vwCl [(h0, .inr (11, [.int 0, .ref a1, .int 0, .ref a2, .int 0, .int 0, .int 0, .int 0, .int (-1), .ref a3, .ref a4, .int 0, .int 0, .int 0, .ref a5, .ref a6, .int 0, .int (-1), .int 0, .int 0, .ref a7, .ref a8, .ref a9, .ref a10, .int 0, .int 0, .ref a11, .ref a12, .int 0, .int 0, .ref a13, .ref a14, .ref a15, .int 0, .int 0, .ref a16, .ref a17, .ref a18]))] H := hP
  have hD : va_D A [(h0, .inr (11, [.int 0, .ref a1, .int 0, .ref a2, .int 0, .int 0, .int 0, .int 0, .int (-1), .ref a3, .ref a4, .int 0, .int 0, .int 0, .ref a5, .ref a6, .int 0, .int (-1), .int 0, .int 0, .ref a7, .ref a8, .ref a9, .ref a10, .int 0, .int 0, .ref a11, .ref a12, .int 0, .int 0, .ref a13, .ref a14, .ref a15, .int 0, .int 0, .ref a16, .ref a17, .ref a18]))] := hD
  refine lv_aload_n hx hb dX12_stands_5 rfl (lv_at hl 0 rfl) ?_
  refine lv_iload_n hx hb dX12_stands_6 rfl (lv_at hl 1 rfl) ?_
  refine lv_iconst (v := 0) hx hb dX12_stands_7 (by decide) ?_
  refine lv_iconst (v := 5) hx hb dX12_stands_8 (by decide) ?_
  refine kt_callS (wc := []) (wr := [(h0, .inr (11, [.int 0, .ref a1, .int 0, .ref a2, .int 0, .int 0, .int 0, .int 0, .int (-1), .ref a3, .ref a4, .int 0, .int 0, .int 0, .ref a5, .ref a6, .int 0, .int (-1), .int 0, .int 0, .ref a7, .ref a8, .ref a9, .ref a10, .int 0, .int 0, .ref a11, .ref a12, .int 0, .int 0, .ref a13, .ref a14, .ref a15, .int 0, .int 0, .ref a16, .ref a17, .ref a18]))]) (As := [.int p0, .int 0, .int 5]) (rest := [.ref h0]) (c_X12_in l G cy p0 0 5) m_X12_in u_1732 hx hb hml hown hU hl.1 hK hP hD hS hA dX12_stands_9 [] [0] rfl rfl rfl rfl rfl rfl (Nat.le_of_ble_eq_true rfl) (fun v9 w9 H locs hw hP hD hS => ?_)
  obtain ⟨x_1, rfl, rfl, hp_2⟩ := hw
  rcases hp_2 with ⟨rfl, hp_2b⟩ | ⟨rfl, hp_2b⟩
  · have hP : va_P G vwCl [(h0, .inr (11, [.int 0, .ref a1, .int 0, .ref a2, .int 0, .int 0, .int 0, .int 0, .int (-1), .ref a3, .ref a4, .int 0, .int 0, .int 0, .ref a5, .ref a6, .int 0, .int (-1), .int 0, .int 0, .ref a7, .ref a8, .ref a9, .ref a10, .int 0, .int 0, .ref a11, .ref a12, .int 0, .int 0, .ref a13, .ref a14, .ref a15, .int 0, .int 0, .ref a16, .ref a17, .ref a18]))] H := hP
    have hD : va_D A [(h0, .inr (11, [.int 0, .ref a1, .int 0, .ref a2, .int 0, .int 0, .int 0, .int 0, .int (-1), .ref a3, .ref a4, .int 0, .int 0, .int 0, .ref a5, .ref a6, .int 0, .int (-1), .int 0, .int 0, .ref a7, .ref a8, .ref a9, .ref a10, .int 0, .int 0, .ref a11, .ref a12, .int 0, .int 0, .ref a13, .ref a14, .ref a15, .int 0, .int 0, .ref a16, .ref a17, .ref a18]))] := hD
    refine W.eq (g2 := F0 m 12 ls [.int 1, .ref h0]) rfl ?_
    refine W.widen (k := 0) (n := 0) (Nat.le_of_ble_eq_true rfl) (Nat.le_of_ble_eq_true rfl) ?_
    refine lv_if_ne (tgt := 19) hx hb dX12_stands_12 (by decide) (fun _ => ?_) (fun c9 => absurd c9 (by decide))
    refine lv_iconst (v := 0) hx hb dX12_stands_19 (by decide) ?_
    refine lv_iconst (v := 1) hx hb dX12_stands_20 (by decide) ?_
    refine kt_callV (wc := [(h0, .inr (11, [.int 0, .ref a1, .int 0, .ref a2, .int 0, .int 0, .int 0, .int 0, .int (-1), .ref a3, .ref a4, .int 0, .int 0, .int 0, .ref a5, .ref a6, .int 0, .int (-1), .int 0, .int 0, .ref a7, .ref a8, .ref a9, .ref a10, .int 0, .int 0, .ref a11, .ref a12, .int 0, .int 0, .ref a13, .ref a14, .ref a15, .int 0, .int 0, .ref a16, .ref a17, .ref a18]))]) (wr := []) (As := [.int 0, .int 1]) (rest := []) (c_X12_throwsIf_0 l G cy h0 a1 a2 a3 a4 a5 a6 a7 a8 a9 a10 a11 a12 a13 a14 a15 a16 a17 a18 1) m_X12_throwsIf u_1752 hx hb hml hown hU hl.1 hK hP hD hS hA dX12_stands_21 [0] [] rfl rfl rfl rfl rfl rfl (Nat.le_of_ble_eq_true rfl) (ci := 11) rfl rfl rfl (fun v9 w9 H locs hw hP hD hS => ?_)
    obtain ⟨rfl, rfl⟩ := hw
    have hP : va_P G vwCl [(h0, .inr (11, [.int 0, .ref a1, .int 0, .ref a2, .int 0, .int 0, .int 0, .int 0, .int (-1), .ref a3, .ref a4, .int 0, .int 0, .int 0, .ref a5, .ref a6, .int 0, .int (-1), .int 0, .int 0, .ref a7, .ref a8, .ref a9, .ref a10, .int 0, .int 0, .ref a11, .ref a12, .int 0, .int 0, .ref a13, .ref a14, .ref a15, .int 0, .int 0, .ref a16, .ref a17, .ref a18]))] H := hP
    have hD : va_D A [(h0, .inr (11, [.int 0, .ref a1, .int 0, .ref a2, .int 0, .int 0, .int 0, .int 0, .int (-1), .ref a3, .ref a4, .int 0, .int 0, .int 0, .ref a5, .ref a6, .int 0, .int (-1), .int 0, .int 0, .ref a7, .ref a8, .ref a9, .ref a10, .int 0, .int 0, .ref a11, .ref a12, .int 0, .int 0, .ref a13, .ref a14, .ref a15, .int 0, .int 0, .ref a16, .ref a17, .ref a18]))] := hD
    refine W.eq (g2 := F0 m 24 ls [.int 0]) rfl ?_
    refine W.widen (k := 0) (n := 0) (Nat.le_of_ble_eq_true rfl) (Nat.le_of_ble_eq_true rfl) ?_
    refine lv_if_eq (tgt := 29) hx hb dX12_stands_24 (by decide) (fun _ => ?_) (fun c9 => absurd (by decide) c9)
    refine lv_iconst (v := 0) hx hb dX12_stands_29 (by decide) ?_
    refine lv_istore_n (lv' := [(3, .int 0), (0, .ref h0), (1, .int p0), (2, .int p1)]) hx hb dX12_stands_30 rfl hl (by decide) rfl (fun ls hl => ?_)
    refine lv_iload_n hx hb dX12_stands_31 rfl (lv_at hl 3 rfl) ?_
    refine lv_if_eq (tgt := 42) hx hb dX12_stands_32 (by decide) (fun c_3 => ?_) (fun c_3 => ?_)
    · refine lv_iconst (v := 0) hx hb dX12_stands_42 (by decide) ?_
      refine lv_istore (lv' := [(4, .int 0), (3, .int 0), (0, .ref h0), (1, .int p0), (2, .int p1)]) hx hb dX12_stands_43 hl (by decide) rfl (fun ls hl => ?_)
      refine lv_iload hx hb dX12_stands_45 (lv_at hl 0 rfl) ?_
      refine lv_iload_n hx hb dX12_stands_47 rfl (lv_at hl 4 rfl) ?_
      refine lv_if_eq (tgt := 58) hx hb dX12_stands_48 (by decide) (fun _ => ?_) (fun c9 => absurd c_3 c9)
      refine lv_aload_n hx hb dX12_stands_58 rfl (lv_at hl 2 rfl) ?_
      refine va_get (D := G) (ci := 11) (v := .int 0) (C := RX12) (T := TX12) (N := 38) hx hb hU in_X12 hown hK.1 hP 0 rfl rfl 11 (by decide) (hU _ u_1516) (fun _ h9 => h9) rfl dX12_stands_59 ?_
      refine lv_icmp_ge (tgt := 92) hx hb dX12_stands_62 (by decide) (fun _ => ?_) (fun c9 => absurd (by decide) c9)
      refine lv_iload_n hx hb dX12_stands_92 rfl (lv_at hl 1 rfl) ?_
      exact kt_iret hx hb hr hlocks hP hD hS dX12_stands_93 [0] rfl rfl rfl rfl ⟨0, 0, rfl, rfl, (Or.inr ⟨rfl, okVar_y (by assumption), rfl⟩)⟩
    · refine lv_aload_n hx hb dX12_stands_35 rfl (lv_at hl 1 rfl) ?_
      refine va_get (D := G) (ci := 11) (v := .int 0) (C := RX12) (T := TX12) (N := 38) hx hb hU in_X12 hown hK.1 hP 0 rfl rfl 11 (by decide) (hU _ u_1516) (fun _ h9 => h9) rfl dX12_stands_36 ?_
      refine lv_goto (tgt := 43) hx hb dX12_stands_39 (by decide) ?_
      refine lv_istore (lv' := [(4, .int 0), (3, .int 0), (0, .ref h0), (1, .int p0), (2, .int p1)]) hx hb dX12_stands_43 hl (by decide) rfl (fun ls hl => ?_)
      refine lv_iload hx hb dX12_stands_45 (lv_at hl 0 rfl) ?_
      refine lv_iload_n hx hb dX12_stands_47 rfl (lv_at hl 4 rfl) ?_
      refine lv_if_eq (tgt := 58) hx hb dX12_stands_48 (by decide) (fun c9 => absurd c9 c_3) (fun _ => ?_)
      refine lv_aload_n hx hb dX12_stands_51 rfl (lv_at hl 2 rfl) ?_
      refine va_get (D := G) (ci := 11) (v := .int 0) (C := RX12) (T := TX12) (N := 38) hx hb hU in_X12 hown hK.1 hP 0 rfl rfl 12 (by decide) (hU _ u_1517) (fun _ h9 => h9) rfl dX12_stands_52 ?_
      refine lv_goto (tgt := 62) hx hb dX12_stands_55 (by decide) ?_
      refine lv_icmp_ge (tgt := 92) hx hb dX12_stands_62 (by decide) (fun _ => ?_) (fun c9 => absurd (by decide) c9)
      refine lv_iload_n hx hb dX12_stands_92 rfl (lv_at hl 1 rfl) ?_
      exact kt_iret hx hb hr hlocks hP hD hS dX12_stands_93 [0] rfl rfl rfl rfl ⟨0, 0, rfl, rfl, (Or.inr ⟨rfl, okVar_y (by assumption), rfl⟩)⟩
  · have hP : va_P G vwCl [(h0, .inr (11, [.int 0, .ref a1, .int 0, .ref a2, .int 0, .int 0, .int 0, .int 0, .int (-1), .ref a3, .ref a4, .int 0, .int 0, .int 0, .ref a5, .ref a6, .int 0, .int (-1), .int 0, .int 0, .ref a7, .ref a8, .ref a9, .ref a10, .int 0, .int 0, .ref a11, .ref a12, .int 0, .int 0, .ref a13, .ref a14, .ref a15, .int 0, .int 0, .ref a16, .ref a17, .ref a18]))] H := hP
    have hD : va_D A [(h0, .inr (11, [.int 0, .ref a1, .int 0, .ref a2, .int 0, .int 0, .int 0, .int 0, .int (-1), .ref a3, .ref a4, .int 0, .int 0, .int 0, .ref a5, .ref a6, .int 0, .int (-1), .int 0, .int 0, .ref a7, .ref a8, .ref a9, .ref a10, .int 0, .int 0, .ref a11, .ref a12, .int 0, .int 0, .ref a13, .ref a14, .ref a15, .int 0, .int 0, .ref a16, .ref a17, .ref a18]))] := hD
    refine W.eq (g2 := F0 m 12 ls [.int 0, .ref h0]) rfl ?_
    refine W.widen (k := 0) (n := 0) (Nat.le_of_ble_eq_true rfl) (Nat.le_of_ble_eq_true rfl) ?_
    refine lv_if_ne (tgt := 19) hx hb dX12_stands_12 (by decide) (fun c9 => absurd (by decide) c9) (fun _ => ?_)
    refine lv_iconst (v := 1) hx hb dX12_stands_15 (by decide) ?_
    refine lv_goto (tgt := 20) hx hb dX12_stands_16 (by decide) ?_
    refine lv_iconst (v := 1) hx hb dX12_stands_20 (by decide) ?_
    refine kt_callV (wc := [(h0, .inr (11, [.int 0, .ref a1, .int 0, .ref a2, .int 0, .int 0, .int 0, .int 0, .int (-1), .ref a3, .ref a4, .int 0, .int 0, .int 0, .ref a5, .ref a6, .int 0, .int (-1), .int 0, .int 0, .ref a7, .ref a8, .ref a9, .ref a10, .int 0, .int 0, .ref a11, .ref a12, .int 0, .int 0, .ref a13, .ref a14, .ref a15, .int 0, .int 0, .ref a16, .ref a17, .ref a18]))]) (wr := []) (As := [.int 1, .int 1]) (rest := []) (c_X12_throwsIf_1 l G cy h0 a1 a2 a3 a4 a5 a6 a7 a8 a9 a10 a11 a12 a13 a14 a15 a16 a17 a18 1) m_X12_throwsIf u_1752 hx hb hml hown hU hl.1 hK hP hD hS hA dX12_stands_21 [0] [] rfl rfl rfl rfl rfl rfl (Nat.le_of_ble_eq_true rfl) (ci := 11) rfl rfl rfl (fun v9 w9 H locs hw hP hD hS => ?_)
    obtain ⟨rfl, rfl⟩ := hw
    have hP : va_P G vwCl [(h0, .inr (11, [.int 1, .ref a1, .int 0, .ref a2, .int 0, .int 0, .int 0, .int 0, .int (-1), .ref a3, .ref a4, .int 0, .int 0, .int 0, .ref a5, .ref a6, .int 0, .int (-1), .int 0, .int 0, .ref a7, .ref a8, .ref a9, .ref a10, .int 0, .int 0, .ref a11, .ref a12, .int 0, .int 0, .ref a13, .ref a14, .ref a15, .int 0, .int 0, .ref a16, .ref a17, .ref a18]))] H := hP
    have hD : va_D A [(h0, .inr (11, [.int 1, .ref a1, .int 0, .ref a2, .int 0, .int 0, .int 0, .int 0, .int (-1), .ref a3, .ref a4, .int 0, .int 0, .int 0, .ref a5, .ref a6, .int 0, .int (-1), .int 0, .int 0, .ref a7, .ref a8, .ref a9, .ref a10, .int 0, .int 0, .ref a11, .ref a12, .int 0, .int 0, .ref a13, .ref a14, .ref a15, .int 0, .int 0, .ref a16, .ref a17, .ref a18]))] := hD
    refine W.eq (g2 := F0 m 24 ls [.int 1]) rfl ?_
    refine W.widen (k := 0) (n := 0) (Nat.le_of_ble_eq_true rfl) (Nat.le_of_ble_eq_true rfl) ?_
    refine lv_if_eq (tgt := 29) hx hb dX12_stands_24 (by decide) (fun c9 => absurd c9 (by decide)) (fun _ => ?_)
    refine lv_iconst (v := 0) hx hb dX12_stands_27 (by decide) ?_
    exact kt_iret hx hb hr hlocks hP hD hS dX12_stands_28 [0] rfl rfl rfl rfl ⟨1, 0, rfl, rfl, (Or.inl ⟨rfl, okVar_n (by assumption)⟩)⟩
set_option maxHeartbeats 4000000 in
set_option maxRecDepth 100000 in
theorem c_X12_units (l : Launch) (G : va_G) (cy : Nat → ClassId) (h0 : Nat) (a1 : Nat) (a2 : Nat) (a3 : Nat) (a4 : Nat) (a5 : Nat) (a6 : Nat) (a7 : Nat) (a8 : Nat) (a9 : Nat) (a10 : Nat) (a11 : Nat) (a12 : Nat) (a13 : Nat) (a14 : Nat) (a15 : Nat) (a16 : Nat) (a17 : Nat) (a18 : Nat) (p0 : Int32) (p1 : Int32) (p2 : Int32) : Kt l G cy yX12_units cX12_units 8 (some .int) ({ frames := 12, cells := 0, slots := 0, locals := 300 } : Room) [.ref h0, .int p0, .int p1, .int p2] [(h0, .inr (11, [.int 0, .ref a1, .int 0, .ref a2, .int 0, .int 0, .int 0, .int 0, .int (-1), .ref a3, .ref a4, .int 0, .int 0, .int 0, .ref a5, .ref a6, .int 0, .int (-1), .int 0, .int 0, .ref a7, .ref a8, .ref a9, .ref a10, .int 0, .int 0, .ref a11, .ref a12, .int 0, .int 0, .ref a13, .ref a14, .ref a15, .int 0, .int 0, .ref a16, .ref a17, .ref a18]))] (fun (v : Option Value) (w1 : va_W) => ∃ (t : Int32), ∃ (r : Int32), ∃ (u1 : Int32), ∃ (u2 : Int32), v = some (.int r) ∧ w1 = [(h0, .inr (11, [.int t, .ref a1, .int 0, .ref a2, .int 0, .int 0, .int 0, .int 0, .int (-1), .ref a3, .ref a4, .int 0, .int 0, .int 0, .ref a5, .ref a6, .int 0, .int (-1), .int 0, .int 0, .ref a7, .ref a8, .ref a9, .ref a10, .int u1, .int u2, .ref a11, .ref a12, .int 0, .int 0, .ref a13, .ref a14, .ref a15, .int 0, .int 0, .ref a16, .ref a17, .ref a18]))] ∧ ((t = 1 ∧ ¬ okSets p0 p1) ∨ (t = 2 ∧ okSets p0 p1 ∧ ¬ okWhat p2) ∨ (t = 0 ∧ okSets p0 p1 ∧ okWhat p2 ∧ r = sp_units p0 p1 p2))) := by
  refine kt_ofW (by decide) (Nat.le_of_ble_eq_true rfl) ?_
  intro p e s m below meth c A ls hx hb hr hU hown hlocks hml hin hP hK hD hA hS hl
  have hown : s.vm.findClass RX12 = some m.cls := hown
  have hl : lv_has ls 8 [(0, .ref h0), (1, .int p0), (2, .int p1), (3, .int p2)] := hl
  refine lv_aload_n hx hb dX12_units_0 rfl (lv_at hl 0 rfl) ?_
  refine lv_iconst (v := 0) hx hb dX12_units_1 (by decide) ?_
  refine va_put (D := G) (ci := 11) (v := .int 0) (ty := .int) (C := RX12) (T := TX12) (N := 38) hx hb hU in_X12 tyX12 tyX12_ok nmX12 hown hK.1 hP hD hS 0 rfl rfl 0 (by decide) (hU _ u_1505) (fun _ h9 => h9) rfl (by decide +kernel) rfl rfl (Nat.le_of_ble_eq_true rfl) dX12_units_2 (fun H locs hP hD hS => ?_)
  have hP : va_P G vwCl [(h0, .inr (11, [.int 0, .ref a1, .int 0, .ref a2, .int 0, .int 0, .int 0, .int 0, .int (-1), .ref a3, .ref a4, .int 0, .int 0, .int 0, .ref a5, .ref a6, .int 0, .int (-1), .int 0, .int 0, .ref a7, .ref a8, .ref a9, .ref a10, .int 0, .int 0, .ref a11, .ref a12, .int 0, .int 0, .ref a13, .ref a14, .ref a15, .int 0, .int 0, .ref a16, .ref a17, .ref a18]))] H := hP
  have hD : va_D A [(h0, .inr (11, [.int 0, .ref a1, .int 0, .ref a2, .int 0, .int 0, .int 0, .int 0, .int (-1), .ref a3, .ref a4, .int 0, .int 0, .int 0, .ref a5, .ref a6, .int 0, .int (-1), .int 0, .int 0, .ref a7, .ref a8, .ref a9, .ref a10, .int 0, .int 0, .ref a11, .ref a12, .int 0, .int 0, .ref a13, .ref a14, .ref a15, .int 0, .int 0, .ref a16, .ref a17, .ref a18]))] := hD
  refine lv_aload_n hx hb dX12_units_5 rfl (lv_at hl 0 rfl) ?_
  refine lv_iload_n hx hb dX12_units_6 rfl (lv_at hl 1 rfl) ?_
  refine lv_iconst (v := 0) hx hb dX12_units_7 (by decide) ?_
  refine lv_bipush (v := 63) hx hb dX12_units_8 (by decide) ?_
  refine kt_callS (wc := []) (wr := [(h0, .inr (11, [.int 0, .ref a1, .int 0, .ref a2, .int 0, .int 0, .int 0, .int 0, .int (-1), .ref a3, .ref a4, .int 0, .int 0, .int 0, .ref a5, .ref a6, .int 0, .int (-1), .int 0, .int 0, .ref a7, .ref a8, .ref a9, .ref a10, .int 0, .int 0, .ref a11, .ref a12, .int 0, .int 0, .ref a13, .ref a14, .ref a15, .int 0, .int 0, .ref a16, .ref a17, .ref a18]))]) (As := [.int p0, .int 0, .int 63]) (rest := [.ref h0]) (c_X12_in l G cy p0 0 63) m_X12_in u_1732 hx hb hml hown hU hl.1 hK hP hD hS hA dX12_units_10 [] [0] rfl rfl rfl rfl rfl rfl (Nat.le_of_ble_eq_true rfl) (fun v9 w9 H locs hw hP hD hS => ?_)
  obtain ⟨x_1, rfl, rfl, hp_2⟩ := hw
  rcases hp_2 with ⟨rfl, hp_2b⟩ | ⟨rfl, hp_2b⟩
  · have hP : va_P G vwCl [(h0, .inr (11, [.int 0, .ref a1, .int 0, .ref a2, .int 0, .int 0, .int 0, .int 0, .int (-1), .ref a3, .ref a4, .int 0, .int 0, .int 0, .ref a5, .ref a6, .int 0, .int (-1), .int 0, .int 0, .ref a7, .ref a8, .ref a9, .ref a10, .int 0, .int 0, .ref a11, .ref a12, .int 0, .int 0, .ref a13, .ref a14, .ref a15, .int 0, .int 0, .ref a16, .ref a17, .ref a18]))] H := hP
    have hD : va_D A [(h0, .inr (11, [.int 0, .ref a1, .int 0, .ref a2, .int 0, .int 0, .int 0, .int 0, .int (-1), .ref a3, .ref a4, .int 0, .int 0, .int 0, .ref a5, .ref a6, .int 0, .int (-1), .int 0, .int 0, .ref a7, .ref a8, .ref a9, .ref a10, .int 0, .int 0, .ref a11, .ref a12, .int 0, .int 0, .ref a13, .ref a14, .ref a15, .int 0, .int 0, .ref a16, .ref a17, .ref a18]))] := hD
    refine W.eq (g2 := F0 m 13 ls [.int 1, .ref h0]) rfl ?_
    refine W.widen (k := 0) (n := 0) (Nat.le_of_ble_eq_true rfl) (Nat.le_of_ble_eq_true rfl) ?_
    refine lv_if_eq (tgt := 32) hx hb dX12_units_13 (by decide) (fun c9 => absurd c9 (by decide)) (fun _ => ?_)
    refine lv_iload_n hx hb dX12_units_16 rfl (lv_at hl 2 rfl) ?_
    refine lv_iconst (v := 0) hx hb dX12_units_17 (by decide) ?_
    refine lv_bipush (v := 63) hx hb dX12_units_18 (by decide) ?_
    refine kt_callS (wc := []) (wr := [(h0, .inr (11, [.int 0, .ref a1, .int 0, .ref a2, .int 0, .int 0, .int 0, .int 0, .int (-1), .ref a3, .ref a4, .int 0, .int 0, .int 0, .ref a5, .ref a6, .int 0, .int (-1), .int 0, .int 0, .ref a7, .ref a8, .ref a9, .ref a10, .int 0, .int 0, .ref a11, .ref a12, .int 0, .int 0, .ref a13, .ref a14, .ref a15, .int 0, .int 0, .ref a16, .ref a17, .ref a18]))]) (As := [.int p1, .int 0, .int 63]) (rest := [.ref h0]) (c_X12_in l G cy p1 0 63) m_X12_in u_1732 hx hb hml hown hU hl.1 hK hP hD hS hA dX12_units_20 [] [0] rfl rfl rfl rfl rfl rfl (Nat.le_of_ble_eq_true rfl) (fun v9 w9 H locs hw hP hD hS => ?_)
    obtain ⟨x_3, rfl, rfl, hp_4⟩ := hw
    rcases hp_4 with ⟨rfl, hp_4b⟩ | ⟨rfl, hp_4b⟩
    · have hP : va_P G vwCl [(h0, .inr (11, [.int 0, .ref a1, .int 0, .ref a2, .int 0, .int 0, .int 0, .int 0, .int (-1), .ref a3, .ref a4, .int 0, .int 0, .int 0, .ref a5, .ref a6, .int 0, .int (-1), .int 0, .int 0, .ref a7, .ref a8, .ref a9, .ref a10, .int 0, .int 0, .ref a11, .ref a12, .int 0, .int 0, .ref a13, .ref a14, .ref a15, .int 0, .int 0, .ref a16, .ref a17, .ref a18]))] H := hP
      have hD : va_D A [(h0, .inr (11, [.int 0, .ref a1, .int 0, .ref a2, .int 0, .int 0, .int 0, .int 0, .int (-1), .ref a3, .ref a4, .int 0, .int 0, .int 0, .ref a5, .ref a6, .int 0, .int (-1), .int 0, .int 0, .ref a7, .ref a8, .ref a9, .ref a10, .int 0, .int 0, .ref a11, .ref a12, .int 0, .int 0, .ref a13, .ref a14, .ref a15, .int 0, .int 0, .ref a16, .ref a17, .ref a18]))] := hD
      refine W.eq (g2 := F0 m 23 ls [.int 1, .ref h0]) rfl ?_
      refine W.widen (k := 0) (n := 0) (Nat.le_of_ble_eq_true rfl) (Nat.le_of_ble_eq_true rfl) ?_
      refine lv_if_eq (tgt := 32) hx hb dX12_units_23 (by decide) (fun c9 => absurd c9 (by decide)) (fun _ => ?_)
      refine lv_iload_n hx hb dX12_units_26 rfl (lv_at hl 1 rfl) ?_
      refine lv_iload_n hx hb dX12_units_27 rfl (lv_at hl 2 rfl) ?_
      refine lv_iand hx hb dX12_units_28 ?_
      refine lv_if_eq (tgt := 36) hx hb dX12_units_29 (by decide) (fun c_5 => ?_) (fun c_5 => ?_)
      · refine lv_iconst (v := 0) hx hb dX12_units_36 (by decide) ?_
        refine lv_iconst (v := 1) hx hb dX12_units_37 (by decide) ?_
        refine kt_callV (wc := [(h0, .inr (11, [.int 0, .ref a1, .int 0, .ref a2, .int 0, .int 0, .int 0, .int 0, .int (-1), .ref a3, .ref a4, .int 0, .int 0, .int 0, .ref a5, .ref a6, .int 0, .int (-1), .int 0, .int 0, .ref a7, .ref a8, .ref a9, .ref a10, .int 0, .int 0, .ref a11, .ref a12, .int 0, .int 0, .ref a13, .ref a14, .ref a15, .int 0, .int 0, .ref a16, .ref a17, .ref a18]))]) (wr := []) (As := [.int 0, .int 1]) (rest := []) (c_X12_throwsIf_0 l G cy h0 a1 a2 a3 a4 a5 a6 a7 a8 a9 a10 a11 a12 a13 a14 a15 a16 a17 a18 1) m_X12_throwsIf u_1752 hx hb hml hown hU hl.1 hK hP hD hS hA dX12_units_38 [0] [] rfl rfl rfl rfl rfl rfl (Nat.le_of_ble_eq_true rfl) (ci := 11) rfl rfl rfl (fun v9 w9 H locs hw hP hD hS => ?_)
        obtain ⟨rfl, rfl⟩ := hw
        have hP : va_P G vwCl [(h0, .inr (11, [.int 0, .ref a1, .int 0, .ref a2, .int 0, .int 0, .int 0, .int 0, .int (-1), .ref a3, .ref a4, .int 0, .int 0, .int 0, .ref a5, .ref a6, .int 0, .int (-1), .int 0, .int 0, .ref a7, .ref a8, .ref a9, .ref a10, .int 0, .int 0, .ref a11, .ref a12, .int 0, .int 0, .ref a13, .ref a14, .ref a15, .int 0, .int 0, .ref a16, .ref a17, .ref a18]))] H := hP
        have hD : va_D A [(h0, .inr (11, [.int 0, .ref a1, .int 0, .ref a2, .int 0, .int 0, .int 0, .int 0, .int (-1), .ref a3, .ref a4, .int 0, .int 0, .int 0, .ref a5, .ref a6, .int 0, .int (-1), .int 0, .int 0, .ref a7, .ref a8, .ref a9, .ref a10, .int 0, .int 0, .ref a11, .ref a12, .int 0, .int 0, .ref a13, .ref a14, .ref a15, .int 0, .int 0, .ref a16, .ref a17, .ref a18]))] := hD
        refine W.eq (g2 := F0 m 41 ls [.int 0]) rfl ?_
        refine W.widen (k := 0) (n := 0) (Nat.le_of_ble_eq_true rfl) (Nat.le_of_ble_eq_true rfl) ?_
        refine lv_if_ne (tgt := 66) hx hb dX12_units_41 (by decide) (fun c9 => absurd (by decide) c9) (fun _ => ?_)
        refine lv_aload_n hx hb dX12_units_44 rfl (lv_at hl 0 rfl) ?_
        refine lv_iload_n hx hb dX12_units_45 rfl (lv_at hl 3 rfl) ?_
        refine lv_iconst (v := 0) hx hb dX12_units_46 (by decide) ?_
        refine lv_iconst (v := 2) hx hb dX12_units_47 (by decide) ?_
        refine kt_callS (wc := []) (wr := [(h0, .inr (11, [.int 0, .ref a1, .int 0, .ref a2, .int 0, .int 0, .int 0, .int 0, .int (-1), .ref a3, .ref a4, .int 0, .int 0, .int 0, .ref a5, .ref a6, .int 0, .int (-1), .int 0, .int 0, .ref a7, .ref a8, .ref a9, .ref a10, .int 0, .int 0, .ref a11, .ref a12, .int 0, .int 0, .ref a13, .ref a14, .ref a15, .int 0, .int 0, .ref a16, .ref a17, .ref a18]))]) (As := [.int p2, .int 0, .int 2]) (rest := [.ref h0]) (c_X12_in l G cy p2 0 2) m_X12_in u_1732 hx hb hml hown hU hl.1 hK hP hD hS hA dX12_units_48 [] [0] rfl rfl rfl rfl rfl rfl (Nat.le_of_ble_eq_true rfl) (fun v9 w9 H locs hw hP hD hS => ?_)
        obtain ⟨x_6, rfl, rfl, hp_7⟩ := hw
        rcases hp_7 with ⟨rfl, hp_7b⟩ | ⟨rfl, hp_7b⟩
        · have hP : va_P G vwCl [(h0, .inr (11, [.int 0, .ref a1, .int 0, .ref a2, .int 0, .int 0, .int 0, .int 0, .int (-1), .ref a3, .ref a4, .int 0, .int 0, .int 0, .ref a5, .ref a6, .int 0, .int (-1), .int 0, .int 0, .ref a7, .ref a8, .ref a9, .ref a10, .int 0, .int 0, .ref a11, .ref a12, .int 0, .int 0, .ref a13, .ref a14, .ref a15, .int 0, .int 0, .ref a16, .ref a17, .ref a18]))] H := hP
          have hD : va_D A [(h0, .inr (11, [.int 0, .ref a1, .int 0, .ref a2, .int 0, .int 0, .int 0, .int 0, .int (-1), .ref a3, .ref a4, .int 0, .int 0, .int 0, .ref a5, .ref a6, .int 0, .int (-1), .int 0, .int 0, .ref a7, .ref a8, .ref a9, .ref a10, .int 0, .int 0, .ref a11, .ref a12, .int 0, .int 0, .ref a13, .ref a14, .ref a15, .int 0, .int 0, .ref a16, .ref a17, .ref a18]))] := hD
          refine W.eq (g2 := F0 m 51 ls [.int 1, .ref h0]) rfl ?_
          refine W.widen (k := 0) (n := 0) (Nat.le_of_ble_eq_true rfl) (Nat.le_of_ble_eq_true rfl) ?_
          refine lv_if_ne (tgt := 58) hx hb dX12_units_51 (by decide) (fun _ => ?_) (fun c9 => absurd c9 (by decide))
          refine lv_iconst (v := 0) hx hb dX12_units_58 (by decide) ?_
          refine lv_iconst (v := 2) hx hb dX12_units_59 (by decide) ?_
          refine kt_callV (wc := [(h0, .inr (11, [.int 0, .ref a1, .int 0, .ref a2, .int 0, .int 0, .int 0, .int 0, .int (-1), .ref a3, .ref a4, .int 0, .int 0, .int 0, .ref a5, .ref a6, .int 0, .int (-1), .int 0, .int 0, .ref a7, .ref a8, .ref a9, .ref a10, .int 0, .int 0, .ref a11, .ref a12, .int 0, .int 0, .ref a13, .ref a14, .ref a15, .int 0, .int 0, .ref a16, .ref a17, .ref a18]))]) (wr := []) (As := [.int 0, .int 2]) (rest := []) (c_X12_throwsIf_0 l G cy h0 a1 a2 a3 a4 a5 a6 a7 a8 a9 a10 a11 a12 a13 a14 a15 a16 a17 a18 2) m_X12_throwsIf u_1752 hx hb hml hown hU hl.1 hK hP hD hS hA dX12_units_60 [0] [] rfl rfl rfl rfl rfl rfl (Nat.le_of_ble_eq_true rfl) (ci := 11) rfl rfl rfl (fun v9 w9 H locs hw hP hD hS => ?_)
          obtain ⟨rfl, rfl⟩ := hw
          have hP : va_P G vwCl [(h0, .inr (11, [.int 0, .ref a1, .int 0, .ref a2, .int 0, .int 0, .int 0, .int 0, .int (-1), .ref a3, .ref a4, .int 0, .int 0, .int 0, .ref a5, .ref a6, .int 0, .int (-1), .int 0, .int 0, .ref a7, .ref a8, .ref a9, .ref a10, .int 0, .int 0, .ref a11, .ref a12, .int 0, .int 0, .ref a13, .ref a14, .ref a15, .int 0, .int 0, .ref a16, .ref a17, .ref a18]))] H := hP
          have hD : va_D A [(h0, .inr (11, [.int 0, .ref a1, .int 0, .ref a2, .int 0, .int 0, .int 0, .int 0, .int (-1), .ref a3, .ref a4, .int 0, .int 0, .int 0, .ref a5, .ref a6, .int 0, .int (-1), .int 0, .int 0, .ref a7, .ref a8, .ref a9, .ref a10, .int 0, .int 0, .ref a11, .ref a12, .int 0, .int 0, .ref a13, .ref a14, .ref a15, .int 0, .int 0, .ref a16, .ref a17, .ref a18]))] := hD
          refine W.eq (g2 := F0 m 63 ls [.int 0]) rfl ?_
          refine W.widen (k := 0) (n := 0) (Nat.le_of_ble_eq_true rfl) (Nat.le_of_ble_eq_true rfl) ?_
          refine lv_if_eq (tgt := 68) hx hb dX12_units_63 (by decide) (fun _ => ?_) (fun c9 => absurd (by decide) c9)
          refine lv_aload_n hx hb dX12_units_68 rfl (lv_at hl 0 rfl) ?_
          refine lv_iload_n hx hb dX12_units_69 rfl (lv_at hl 1 rfl) ?_
          refine va_put (D := G) (ci := 11) (v := .int p0) (ty := .int) (C := RX12) (T := TX12) (N := 38) hx hb hU in_X12 tyX12 tyX12_ok nmX12 hown hK.1 hP hD hS 0 rfl rfl 24 (by decide) (hU _ u_1529) (fun _ h9 => h9) rfl (by decide +kernel) rfl rfl (Nat.le_of_ble_eq_true rfl) dX12_units_70 (fun H locs hP hD hS => ?_)
          have hP : va_P G vwCl [(h0, .inr (11, [.int 0, .ref a1, .int 0, .ref a2, .int 0, .int 0, .int 0, .int 0, .int (-1), .ref a3, .ref a4, .int 0, .int 0, .int 0, .ref a5, .ref a6, .int 0, .int (-1), .int 0, .int 0, .ref a7, .ref a8, .ref a9, .ref a10, .int p0, .int 0, .ref a11, .ref a12, .int 0, .int 0, .ref a13, .ref a14, .ref a15, .int 0, .int 0, .ref a16, .ref a17, .ref a18]))] H := hP
          have hD : va_D A [(h0, .inr (11, [.int 0, .ref a1, .int 0, .ref a2, .int 0, .int 0, .int 0, .int 0, .int (-1), .ref a3, .ref a4, .int 0, .int 0, .int 0, .ref a5, .ref a6, .int 0, .int (-1), .int 0, .int 0, .ref a7, .ref a8, .ref a9, .ref a10, .int p0, .int 0, .ref a11, .ref a12, .int 0, .int 0, .ref a13, .ref a14, .ref a15, .int 0, .int 0, .ref a16, .ref a17, .ref a18]))] := hD
          refine lv_aload_n hx hb dX12_units_73 rfl (lv_at hl 0 rfl) ?_
          refine lv_iload_n hx hb dX12_units_74 rfl (lv_at hl 2 rfl) ?_
          refine va_put (D := G) (ci := 11) (v := .int p1) (ty := .int) (C := RX12) (T := TX12) (N := 38) hx hb hU in_X12 tyX12 tyX12_ok nmX12 hown hK.1 hP hD hS 0 rfl rfl 25 (by decide) (hU _ u_1530) (fun _ h9 => h9) rfl (by decide +kernel) rfl rfl (Nat.le_of_ble_eq_true rfl) dX12_units_75 (fun H locs hP hD hS => ?_)
          have hP : va_P G vwCl [(h0, .inr (11, [.int 0, .ref a1, .int 0, .ref a2, .int 0, .int 0, .int 0, .int 0, .int (-1), .ref a3, .ref a4, .int 0, .int 0, .int 0, .ref a5, .ref a6, .int 0, .int (-1), .int 0, .int 0, .ref a7, .ref a8, .ref a9, .ref a10, .int p0, .int p1, .ref a11, .ref a12, .int 0, .int 0, .ref a13, .ref a14, .ref a15, .int 0, .int 0, .ref a16, .ref a17, .ref a18]))] H := hP
          have hD : va_D A [(h0, .inr (11, [.int 0, .ref a1, .int 0, .ref a2, .int 0, .int 0, .int 0, .int 0, .int (-1), .ref a3, .ref a4, .int 0, .int 0, .int 0, .ref a5, .ref a6, .int 0, .int (-1), .int 0, .int 0, .ref a7, .ref a8, .ref a9, .ref a10, .int p0, .int p1, .ref a11, .ref a12, .int 0, .int 0, .ref a13, .ref a14, .ref a15, .int 0, .int 0, .ref a16, .ref a17, .ref a18]))] := hD
          refine lv_iconst (v := 0) hx hb dX12_units_78 (by decide) ?_
          refine lv_istore (lv' := [(4, .int 0), (0, .ref h0), (1, .int p0), (2, .int p1), (3, .int p2)]) hx hb dX12_units_79 hl (by decide) rfl (fun ls hl => ?_)
          refine lv_iconst (v := 1) hx hb dX12_units_81 (by decide) ?_
          refine lv_istore (lv' := [(5, .int 1), (4, .int 0), (0, .ref h0), (1, .int p0), (2, .int p1), (3, .int p2)]) hx hb dX12_units_82 hl (by decide) rfl (fun ls hl => ?_)
          refine lv_iload hx hb dX12_units_84 (lv_at hl 0 rfl) ?_
          refine lv_if_eq (tgt := 160) hx hb dX12_units_86 (by decide) (fun c9 => absurd c9 (by decide)) (fun _ => ?_)
          refine lv_iload hx hb dX12_units_89 (lv_at hl 1 rfl) ?_
          refine lv_if_ne (tgt := 160) hx hb dX12_units_91 (by decide) (fun c9 => absurd (by decide) c9) (fun _ => ?_)
          refine lv_iconst (v := 0) hx hb dX12_units_94 (by decide) ?_
          refine lv_istore (lv' := [(5, .int 0), (4, .int 0), (0, .ref h0), (1, .int p0), (2, .int p1), (3, .int p2)]) hx hb dX12_units_95 hl (by decide) rfl (fun ls hl => ?_)
          refine lv_iconst (v := 0) hx hb dX12_units_97 (by decide) ?_
          refine lv_istore (lv' := [(6, .int 0), (5, .int 0), (4, .int 0), (0, .ref h0), (1, .int p0), (2, .int p1), (3, .int p2)]) hx hb dX12_units_98 hl (by decide) rfl (fun ls hl => ?_)
          refine lv_iload hx hb dX12_units_100 (lv_at hl 0 rfl) ?_
          refine lv_aload_n hx hb dX12_units_102 rfl (lv_at hl 3 rfl) ?_
          refine va_get (D := G) (ci := 11) (v := .int 0) (C := RX12) (T := TX12) (N := 38) hx hb hU in_X12 hown hK.1 hP 0 rfl rfl 11 (by decide) (hU _ u_1516) (fun _ h9 => h9) rfl dX12_units_103 ?_
          refine lv_icmp_ge (tgt := 157) hx hb dX12_units_106 (by decide) (fun _ => ?_) (fun c9 => absurd (by decide) c9)
          refine lv_goto (tgt := 84) hx hb dX12_units_157 (by decide) ?_
          refine lv_iload hx hb dX12_units_84 (lv_at hl 1 rfl) ?_
          refine lv_if_eq (tgt := 160) hx hb dX12_units_86 (by decide) (fun _ => ?_) (fun c9 => absurd (by decide) c9)
          refine lv_iload_n hx hb dX12_units_160 rfl (lv_at hl 6 rfl) ?_
          refine lv_if_ne (tgt := 171) hx hb dX12_units_161 (by decide) (fun c_8 => ?_) (fun c_8 => ?_)
          · refine lv_iload_n hx hb dX12_units_171 rfl (lv_at hl 6 rfl) ?_
            refine lv_iconst (v := 1) hx hb dX12_units_172 (by decide) ?_
            refine lv_icmp_ne (tgt := 183) hx hb dX12_units_173 (by decide) (fun c_9 => ?_) (fun c_9 => ?_)
            · refine lv_iload hx hb dX12_units_183 (lv_at hl 2 rfl) ?_
              refine lv_if_eq (tgt := 192) hx hb dX12_units_185 (by decide) (fun _ => ?_) (fun c9 => absurd (by decide) c9)
              refine lv_iconst (v := 0) hx hb dX12_units_192 (by decide) ?_
              exact kt_iret hx hb hr hlocks hP hD hS dX12_units_193 [0] rfl rfl rfl rfl ⟨0, 0, p0, p1, rfl, rfl, (Or.inr (Or.inr ⟨rfl, (okSets_y (by assumption) (by assumption) (by assumption)), by unfold okWhat; assumption, (by simp [sp_units, c_5, c_8, c_9])⟩))⟩
            · refine lv_aload_n hx hb dX12_units_176 rfl (lv_at hl 3 rfl) ?_
              refine va_get (D := G) (ci := 11) (v := .int p1) (C := RX12) (T := TX12) (N := 38) hx hb hU in_X12 hown hK.1 hP 0 rfl rfl 25 (by decide) (hU _ u_1530) (fun _ h9 => h9) rfl dX12_units_177 ?_
              refine lv_goto (tgt := 193) hx hb dX12_units_180 (by decide) ?_
              exact kt_iret hx hb hr hlocks hP hD hS dX12_units_193 [0] rfl rfl rfl rfl ⟨0, p1, p0, p1, rfl, rfl, (Or.inr (Or.inr ⟨rfl, (okSets_y (by assumption) (by assumption) (by assumption)), by unfold okWhat; assumption, (by simp [sp_units, c_5, c_8, c_9])⟩))⟩
          · refine lv_aload_n hx hb dX12_units_164 rfl (lv_at hl 3 rfl) ?_
            refine va_get (D := G) (ci := 11) (v := .int p0) (C := RX12) (T := TX12) (N := 38) hx hb hU in_X12 hown hK.1 hP 0 rfl rfl 24 (by decide) (hU _ u_1529) (fun _ h9 => h9) rfl dX12_units_165 ?_
            refine lv_goto (tgt := 193) hx hb dX12_units_168 (by decide) ?_
            exact kt_iret hx hb hr hlocks hP hD hS dX12_units_193 [0] rfl rfl rfl rfl ⟨0, p0, p0, p1, rfl, rfl, (Or.inr (Or.inr ⟨rfl, (okSets_y (by assumption) (by assumption) (by assumption)), by unfold okWhat; assumption, (by simp [sp_units, c_5, c_8])⟩))⟩
        · have hP : va_P G vwCl [(h0, .inr (11, [.int 0, .ref a1, .int 0, .ref a2, .int 0, .int 0, .int 0, .int 0, .int (-1), .ref a3, .ref a4, .int 0, .int 0, .int 0, .ref a5, .ref a6, .int 0, .int (-1), .int 0, .int 0, .ref a7, .ref a8, .ref a9, .ref a10, .int 0, .int 0, .ref a11, .ref a12, .int 0, .int 0, .ref a13, .ref a14, .ref a15, .int 0, .int 0, .ref a16, .ref a17, .ref a18]))] H := hP
          have hD : va_D A [(h0, .inr (11, [.int 0, .ref a1, .int 0, .ref a2, .int 0, .int 0, .int 0, .int 0, .int (-1), .ref a3, .ref a4, .int 0, .int 0, .int 0, .ref a5, .ref a6, .int 0, .int (-1), .int 0, .int 0, .ref a7, .ref a8, .ref a9, .ref a10, .int 0, .int 0, .ref a11, .ref a12, .int 0, .int 0, .ref a13, .ref a14, .ref a15, .int 0, .int 0, .ref a16, .ref a17, .ref a18]))] := hD
          refine W.eq (g2 := F0 m 51 ls [.int 0, .ref h0]) rfl ?_
          refine W.widen (k := 0) (n := 0) (Nat.le_of_ble_eq_true rfl) (Nat.le_of_ble_eq_true rfl) ?_
          refine lv_if_ne (tgt := 58) hx hb dX12_units_51 (by decide) (fun c9 => absurd (by decide) c9) (fun _ => ?_)
          refine lv_iconst (v := 1) hx hb dX12_units_54 (by decide) ?_
          refine lv_goto (tgt := 59) hx hb dX12_units_55 (by decide) ?_
          refine lv_iconst (v := 2) hx hb dX12_units_59 (by decide) ?_
          refine kt_callV (wc := [(h0, .inr (11, [.int 0, .ref a1, .int 0, .ref a2, .int 0, .int 0, .int 0, .int 0, .int (-1), .ref a3, .ref a4, .int 0, .int 0, .int 0, .ref a5, .ref a6, .int 0, .int (-1), .int 0, .int 0, .ref a7, .ref a8, .ref a9, .ref a10, .int 0, .int 0, .ref a11, .ref a12, .int 0, .int 0, .ref a13, .ref a14, .ref a15, .int 0, .int 0, .ref a16, .ref a17, .ref a18]))]) (wr := []) (As := [.int 1, .int 2]) (rest := []) (c_X12_throwsIf_1 l G cy h0 a1 a2 a3 a4 a5 a6 a7 a8 a9 a10 a11 a12 a13 a14 a15 a16 a17 a18 2) m_X12_throwsIf u_1752 hx hb hml hown hU hl.1 hK hP hD hS hA dX12_units_60 [0] [] rfl rfl rfl rfl rfl rfl (Nat.le_of_ble_eq_true rfl) (ci := 11) rfl rfl rfl (fun v9 w9 H locs hw hP hD hS => ?_)
          obtain ⟨rfl, rfl⟩ := hw
          have hP : va_P G vwCl [(h0, .inr (11, [.int 2, .ref a1, .int 0, .ref a2, .int 0, .int 0, .int 0, .int 0, .int (-1), .ref a3, .ref a4, .int 0, .int 0, .int 0, .ref a5, .ref a6, .int 0, .int (-1), .int 0, .int 0, .ref a7, .ref a8, .ref a9, .ref a10, .int 0, .int 0, .ref a11, .ref a12, .int 0, .int 0, .ref a13, .ref a14, .ref a15, .int 0, .int 0, .ref a16, .ref a17, .ref a18]))] H := hP
          have hD : va_D A [(h0, .inr (11, [.int 2, .ref a1, .int 0, .ref a2, .int 0, .int 0, .int 0, .int 0, .int (-1), .ref a3, .ref a4, .int 0, .int 0, .int 0, .ref a5, .ref a6, .int 0, .int (-1), .int 0, .int 0, .ref a7, .ref a8, .ref a9, .ref a10, .int 0, .int 0, .ref a11, .ref a12, .int 0, .int 0, .ref a13, .ref a14, .ref a15, .int 0, .int 0, .ref a16, .ref a17, .ref a18]))] := hD
          refine W.eq (g2 := F0 m 63 ls [.int 1]) rfl ?_
          refine W.widen (k := 0) (n := 0) (Nat.le_of_ble_eq_true rfl) (Nat.le_of_ble_eq_true rfl) ?_
          refine lv_if_eq (tgt := 68) hx hb dX12_units_63 (by decide) (fun c9 => absurd c9 (by decide)) (fun _ => ?_)
          refine lv_iconst (v := 0) hx hb dX12_units_66 (by decide) ?_
          exact kt_iret hx hb hr hlocks hP hD hS dX12_units_67 [0] rfl rfl rfl rfl ⟨2, 0, 0, 0, rfl, rfl, (Or.inr (Or.inl ⟨rfl, (okSets_y (by assumption) (by assumption) (by assumption)), by unfold okWhat; assumption⟩))⟩
      · refine lv_iconst (v := 1) hx hb dX12_units_32 (by decide) ?_
        refine lv_goto (tgt := 37) hx hb dX12_units_33 (by decide) ?_
        refine lv_iconst (v := 1) hx hb dX12_units_37 (by decide) ?_
        refine kt_callV (wc := [(h0, .inr (11, [.int 0, .ref a1, .int 0, .ref a2, .int 0, .int 0, .int 0, .int 0, .int (-1), .ref a3, .ref a4, .int 0, .int 0, .int 0, .ref a5, .ref a6, .int 0, .int (-1), .int 0, .int 0, .ref a7, .ref a8, .ref a9, .ref a10, .int 0, .int 0, .ref a11, .ref a12, .int 0, .int 0, .ref a13, .ref a14, .ref a15, .int 0, .int 0, .ref a16, .ref a17, .ref a18]))]) (wr := []) (As := [.int 1, .int 1]) (rest := []) (c_X12_throwsIf_1 l G cy h0 a1 a2 a3 a4 a5 a6 a7 a8 a9 a10 a11 a12 a13 a14 a15 a16 a17 a18 1) m_X12_throwsIf u_1752 hx hb hml hown hU hl.1 hK hP hD hS hA dX12_units_38 [0] [] rfl rfl rfl rfl rfl rfl (Nat.le_of_ble_eq_true rfl) (ci := 11) rfl rfl rfl (fun v9 w9 H locs hw hP hD hS => ?_)
        obtain ⟨rfl, rfl⟩ := hw
        have hP : va_P G vwCl [(h0, .inr (11, [.int 1, .ref a1, .int 0, .ref a2, .int 0, .int 0, .int 0, .int 0, .int (-1), .ref a3, .ref a4, .int 0, .int 0, .int 0, .ref a5, .ref a6, .int 0, .int (-1), .int 0, .int 0, .ref a7, .ref a8, .ref a9, .ref a10, .int 0, .int 0, .ref a11, .ref a12, .int 0, .int 0, .ref a13, .ref a14, .ref a15, .int 0, .int 0, .ref a16, .ref a17, .ref a18]))] H := hP
        have hD : va_D A [(h0, .inr (11, [.int 1, .ref a1, .int 0, .ref a2, .int 0, .int 0, .int 0, .int 0, .int (-1), .ref a3, .ref a4, .int 0, .int 0, .int 0, .ref a5, .ref a6, .int 0, .int (-1), .int 0, .int 0, .ref a7, .ref a8, .ref a9, .ref a10, .int 0, .int 0, .ref a11, .ref a12, .int 0, .int 0, .ref a13, .ref a14, .ref a15, .int 0, .int 0, .ref a16, .ref a17, .ref a18]))] := hD
        refine W.eq (g2 := F0 m 41 ls [.int 1]) rfl ?_
        refine W.widen (k := 0) (n := 0) (Nat.le_of_ble_eq_true rfl) (Nat.le_of_ble_eq_true rfl) ?_
        refine lv_if_ne (tgt := 66) hx hb dX12_units_41 (by decide) (fun _ => ?_) (fun c9 => absurd c9 (by decide))
        refine lv_iconst (v := 0) hx hb dX12_units_66 (by decide) ?_
        exact kt_iret hx hb hr hlocks hP hD hS dX12_units_67 [0] rfl rfl rfl rfl ⟨1, 0, 0, 0, rfl, rfl, (Or.inl ⟨rfl, (by first | exact okSets_n1 (by assumption) | exact okSets_n2 (by assumption) | exact okSets_n3 (by assumption))⟩)⟩
    · have hP : va_P G vwCl [(h0, .inr (11, [.int 0, .ref a1, .int 0, .ref a2, .int 0, .int 0, .int 0, .int 0, .int (-1), .ref a3, .ref a4, .int 0, .int 0, .int 0, .ref a5, .ref a6, .int 0, .int (-1), .int 0, .int 0, .ref a7, .ref a8, .ref a9, .ref a10, .int 0, .int 0, .ref a11, .ref a12, .int 0, .int 0, .ref a13, .ref a14, .ref a15, .int 0, .int 0, .ref a16, .ref a17, .ref a18]))] H := hP
      have hD : va_D A [(h0, .inr (11, [.int 0, .ref a1, .int 0, .ref a2, .int 0, .int 0, .int 0, .int 0, .int (-1), .ref a3, .ref a4, .int 0, .int 0, .int 0, .ref a5, .ref a6, .int 0, .int (-1), .int 0, .int 0, .ref a7, .ref a8, .ref a9, .ref a10, .int 0, .int 0, .ref a11, .ref a12, .int 0, .int 0, .ref a13, .ref a14, .ref a15, .int 0, .int 0, .ref a16, .ref a17, .ref a18]))] := hD
      refine W.eq (g2 := F0 m 23 ls [.int 0, .ref h0]) rfl ?_
      refine W.widen (k := 0) (n := 0) (Nat.le_of_ble_eq_true rfl) (Nat.le_of_ble_eq_true rfl) ?_
      refine lv_if_eq (tgt := 32) hx hb dX12_units_23 (by decide) (fun _ => ?_) (fun c9 => absurd (by decide) c9)
      refine lv_iconst (v := 1) hx hb dX12_units_32 (by decide) ?_
      refine lv_goto (tgt := 37) hx hb dX12_units_33 (by decide) ?_
      refine lv_iconst (v := 1) hx hb dX12_units_37 (by decide) ?_
      refine kt_callV (wc := [(h0, .inr (11, [.int 0, .ref a1, .int 0, .ref a2, .int 0, .int 0, .int 0, .int 0, .int (-1), .ref a3, .ref a4, .int 0, .int 0, .int 0, .ref a5, .ref a6, .int 0, .int (-1), .int 0, .int 0, .ref a7, .ref a8, .ref a9, .ref a10, .int 0, .int 0, .ref a11, .ref a12, .int 0, .int 0, .ref a13, .ref a14, .ref a15, .int 0, .int 0, .ref a16, .ref a17, .ref a18]))]) (wr := []) (As := [.int 1, .int 1]) (rest := []) (c_X12_throwsIf_1 l G cy h0 a1 a2 a3 a4 a5 a6 a7 a8 a9 a10 a11 a12 a13 a14 a15 a16 a17 a18 1) m_X12_throwsIf u_1752 hx hb hml hown hU hl.1 hK hP hD hS hA dX12_units_38 [0] [] rfl rfl rfl rfl rfl rfl (Nat.le_of_ble_eq_true rfl) (ci := 11) rfl rfl rfl (fun v9 w9 H locs hw hP hD hS => ?_)
      obtain ⟨rfl, rfl⟩ := hw
      have hP : va_P G vwCl [(h0, .inr (11, [.int 1, .ref a1, .int 0, .ref a2, .int 0, .int 0, .int 0, .int 0, .int (-1), .ref a3, .ref a4, .int 0, .int 0, .int 0, .ref a5, .ref a6, .int 0, .int (-1), .int 0, .int 0, .ref a7, .ref a8, .ref a9, .ref a10, .int 0, .int 0, .ref a11, .ref a12, .int 0, .int 0, .ref a13, .ref a14, .ref a15, .int 0, .int 0, .ref a16, .ref a17, .ref a18]))] H := hP
      have hD : va_D A [(h0, .inr (11, [.int 1, .ref a1, .int 0, .ref a2, .int 0, .int 0, .int 0, .int 0, .int (-1), .ref a3, .ref a4, .int 0, .int 0, .int 0, .ref a5, .ref a6, .int 0, .int (-1), .int 0, .int 0, .ref a7, .ref a8, .ref a9, .ref a10, .int 0, .int 0, .ref a11, .ref a12, .int 0, .int 0, .ref a13, .ref a14, .ref a15, .int 0, .int 0, .ref a16, .ref a17, .ref a18]))] := hD
      refine W.eq (g2 := F0 m 41 ls [.int 1]) rfl ?_
      refine W.widen (k := 0) (n := 0) (Nat.le_of_ble_eq_true rfl) (Nat.le_of_ble_eq_true rfl) ?_
      refine lv_if_ne (tgt := 66) hx hb dX12_units_41 (by decide) (fun _ => ?_) (fun c9 => absurd c9 (by decide))
      refine lv_iconst (v := 0) hx hb dX12_units_66 (by decide) ?_
      exact kt_iret hx hb hr hlocks hP hD hS dX12_units_67 [0] rfl rfl rfl rfl ⟨1, 0, 0, 0, rfl, rfl, (Or.inl ⟨rfl, (by first | exact okSets_n1 (by assumption) | exact okSets_n2 (by assumption) | exact okSets_n3 (by assumption))⟩)⟩
  · have hP : va_P G vwCl [(h0, .inr (11, [.int 0, .ref a1, .int 0, .ref a2, .int 0, .int 0, .int 0, .int 0, .int (-1), .ref a3, .ref a4, .int 0, .int 0, .int 0, .ref a5, .ref a6, .int 0, .int (-1), .int 0, .int 0, .ref a7, .ref a8, .ref a9, .ref a10, .int 0, .int 0, .ref a11, .ref a12, .int 0, .int 0, .ref a13, .ref a14, .ref a15, .int 0, .int 0, .ref a16, .ref a17, .ref a18]))] H := hP
    have hD : va_D A [(h0, .inr (11, [.int 0, .ref a1, .int 0, .ref a2, .int 0, .int 0, .int 0, .int 0, .int (-1), .ref a3, .ref a4, .int 0, .int 0, .int 0, .ref a5, .ref a6, .int 0, .int (-1), .int 0, .int 0, .ref a7, .ref a8, .ref a9, .ref a10, .int 0, .int 0, .ref a11, .ref a12, .int 0, .int 0, .ref a13, .ref a14, .ref a15, .int 0, .int 0, .ref a16, .ref a17, .ref a18]))] := hD
    refine W.eq (g2 := F0 m 13 ls [.int 0, .ref h0]) rfl ?_
    refine W.widen (k := 0) (n := 0) (Nat.le_of_ble_eq_true rfl) (Nat.le_of_ble_eq_true rfl) ?_
    refine lv_if_eq (tgt := 32) hx hb dX12_units_13 (by decide) (fun _ => ?_) (fun c9 => absurd (by decide) c9)
    refine lv_iconst (v := 1) hx hb dX12_units_32 (by decide) ?_
    refine lv_goto (tgt := 37) hx hb dX12_units_33 (by decide) ?_
    refine lv_iconst (v := 1) hx hb dX12_units_37 (by decide) ?_
    refine kt_callV (wc := [(h0, .inr (11, [.int 0, .ref a1, .int 0, .ref a2, .int 0, .int 0, .int 0, .int 0, .int (-1), .ref a3, .ref a4, .int 0, .int 0, .int 0, .ref a5, .ref a6, .int 0, .int (-1), .int 0, .int 0, .ref a7, .ref a8, .ref a9, .ref a10, .int 0, .int 0, .ref a11, .ref a12, .int 0, .int 0, .ref a13, .ref a14, .ref a15, .int 0, .int 0, .ref a16, .ref a17, .ref a18]))]) (wr := []) (As := [.int 1, .int 1]) (rest := []) (c_X12_throwsIf_1 l G cy h0 a1 a2 a3 a4 a5 a6 a7 a8 a9 a10 a11 a12 a13 a14 a15 a16 a17 a18 1) m_X12_throwsIf u_1752 hx hb hml hown hU hl.1 hK hP hD hS hA dX12_units_38 [0] [] rfl rfl rfl rfl rfl rfl (Nat.le_of_ble_eq_true rfl) (ci := 11) rfl rfl rfl (fun v9 w9 H locs hw hP hD hS => ?_)
    obtain ⟨rfl, rfl⟩ := hw
    have hP : va_P G vwCl [(h0, .inr (11, [.int 1, .ref a1, .int 0, .ref a2, .int 0, .int 0, .int 0, .int 0, .int (-1), .ref a3, .ref a4, .int 0, .int 0, .int 0, .ref a5, .ref a6, .int 0, .int (-1), .int 0, .int 0, .ref a7, .ref a8, .ref a9, .ref a10, .int 0, .int 0, .ref a11, .ref a12, .int 0, .int 0, .ref a13, .ref a14, .ref a15, .int 0, .int 0, .ref a16, .ref a17, .ref a18]))] H := hP
    have hD : va_D A [(h0, .inr (11, [.int 1, .ref a1, .int 0, .ref a2, .int 0, .int 0, .int 0, .int 0, .int (-1), .ref a3, .ref a4, .int 0, .int 0, .int 0, .ref a5, .ref a6, .int 0, .int (-1), .int 0, .int 0, .ref a7, .ref a8, .ref a9, .ref a10, .int 0, .int 0, .ref a11, .ref a12, .int 0, .int 0, .ref a13, .ref a14, .ref a15, .int 0, .int 0, .ref a16, .ref a17, .ref a18]))] := hD
    refine W.eq (g2 := F0 m 41 ls [.int 1]) rfl ?_
    refine W.widen (k := 0) (n := 0) (Nat.le_of_ble_eq_true rfl) (Nat.le_of_ble_eq_true rfl) ?_
    refine lv_if_ne (tgt := 66) hx hb dX12_units_41 (by decide) (fun _ => ?_) (fun c9 => absurd c9 (by decide))
    refine lv_iconst (v := 0) hx hb dX12_units_66 (by decide) ?_
    exact kt_iret hx hb hr hlocks hP hD hS dX12_units_67 [0] rfl rfl rfl rfl ⟨1, 0, 0, 0, rfl, rfl, (Or.inl ⟨rfl, (by first | exact okSets_n1 (by assumption) | exact okSets_n2 (by assumption) | exact okSets_n3 (by assumption))⟩)⟩
set_option maxHeartbeats 4000000 in
set_option maxRecDepth 100000 in
theorem c_X12_node (l : Launch) (G : va_G) (cy : Nat → ClassId) (h0 : Nat) (a1 : Nat) (a2 : Nat) (a3 : Nat) (a4 : Nat) (a5 : Nat) (a6 : Nat) (a7 : Nat) (a8 : Nat) (a9 : Nat) (a10 : Nat) (a11 : Nat) (a12 : Nat) (a13 : Nat) (a14 : Nat) (a15 : Nat) (a16 : Nat) (a17 : Nat) (a18 : Nat) (p0 : Int32) : Kt l G cy yX12_node cX12_node 5 (some .int) ({ frames := 12, cells := 0, slots := 0, locals := 300 } : Room) [.ref h0, .int p0] [(h0, .inr (11, [.int 0, .ref a1, .int 0, .ref a2, .int 0, .int 0, .int 0, .int 0, .int (-1), .ref a3, .ref a4, .int 0, .int 0, .int 0, .ref a5, .ref a6, .int 0, .int (-1), .int 0, .int 0, .ref a7, .ref a8, .ref a9, .ref a10, .int 0, .int 0, .ref a11, .ref a12, .int 0, .int 0, .ref a13, .ref a14, .ref a15, .int 0, .int 0, .ref a16, .ref a17, .ref a18]))] (fun (v : Option Value) (w1 : va_W) => ∃ (t : Int32), ∃ (r : Int32), v = some (.int r) ∧ w1 = [(h0, .inr (11, [.int t, .ref a1, .int 0, .ref a2, .int 0, .int 0, .int 0, .int 0, .int (-1), .ref a3, .ref a4, .int 0, .int 0, .int 0, .ref a5, .ref a6, .int 0, .int (-1), .int 0, .int 0, .ref a7, .ref a8, .ref a9, .ref a10, .int 0, .int 0, .ref a11, .ref a12, .int 0, .int 0, .ref a13, .ref a14, .ref a15, .int 0, .int 0, .ref a16, .ref a17, .ref a18]))] ∧ ((t = 1 ∧ ¬ okNode p0) ∨ (t = 0 ∧ okNode p0 ∧ r = sp_node p0))) := by
  refine kt_ofW (by decide) (Nat.le_of_ble_eq_true rfl) ?_
  intro p e s m below meth c A ls hx hb hr hU hown hlocks hml hin hP hK hD hA hS hl
  have hown : s.vm.findClass RX12 = some m.cls := hown
  have hl : lv_has ls 5 [(0, .ref h0), (1, .int p0)] := hl
  refine lv_aload_n hx hb dX12_node_0 rfl (lv_at hl 0 rfl) ?_
  refine lv_iconst (v := 0) hx hb dX12_node_1 (by decide) ?_
  refine va_put (D := G) (ci := 11) (v := .int 0) (ty := .int) (C := RX12) (T := TX12) (N := 38) hx hb hU in_X12 tyX12 tyX12_ok nmX12 hown hK.1 hP hD hS 0 rfl rfl 0 (by decide) (hU _ u_1505) (fun _ h9 => h9) rfl (by decide +kernel) rfl rfl (Nat.le_of_ble_eq_true rfl) dX12_node_2 (fun H locs hP hD hS => ?_)
  have hP : va_P G vwCl [(h0, .inr (11, [.int 0, .ref a1, .int 0, .ref a2, .int 0, .int 0, .int 0, .int 0, .int (-1), .ref a3, .ref a4, .int 0, .int 0, .int 0, .ref a5, .ref a6, .int 0, .int (-1), .int 0, .int 0, .ref a7, .ref a8, .ref a9, .ref a10, .int 0, .int 0, .ref a11, .ref a12, .int 0, .int 0, .ref a13, .ref a14, .ref a15, .int 0, .int 0, .ref a16, .ref a17, .ref a18]))] H := hP
  have hD : va_D A [(h0, .inr (11, [.int 0, .ref a1, .int 0, .ref a2, .int 0, .int 0, .int 0, .int 0, .int (-1), .ref a3, .ref a4, .int 0, .int 0, .int 0, .ref a5, .ref a6, .int 0, .int (-1), .int 0, .int 0, .ref a7, .ref a8, .ref a9, .ref a10, .int 0, .int 0, .ref a11, .ref a12, .int 0, .int 0, .ref a13, .ref a14, .ref a15, .int 0, .int 0, .ref a16, .ref a17, .ref a18]))] := hD
  refine lv_iload_n hx hb dX12_node_5 rfl (lv_at hl 1 rfl) ?_
  refine lv_iconst (v := 0) hx hb dX12_node_6 (by decide) ?_
  refine lv_iconst (v := 2) hx hb dX12_node_7 (by decide) ?_
  refine kt_callS (wc := []) (wr := [(h0, .inr (11, [.int 0, .ref a1, .int 0, .ref a2, .int 0, .int 0, .int 0, .int 0, .int (-1), .ref a3, .ref a4, .int 0, .int 0, .int 0, .ref a5, .ref a6, .int 0, .int (-1), .int 0, .int 0, .ref a7, .ref a8, .ref a9, .ref a10, .int 0, .int 0, .ref a11, .ref a12, .int 0, .int 0, .ref a13, .ref a14, .ref a15, .int 0, .int 0, .ref a16, .ref a17, .ref a18]))]) (As := [.int p0, .int 0, .int 2]) (rest := []) (c_X12_in l G cy p0 0 2) m_X12_in u_1732 hx hb hml hown hU hl.1 hK hP hD hS hA dX12_node_8 [] [0] rfl rfl rfl rfl rfl rfl (Nat.le_of_ble_eq_true rfl) (fun v9 w9 H locs hw hP hD hS => ?_)
  obtain ⟨x_1, rfl, rfl, hp_2⟩ := hw
  rcases hp_2 with ⟨rfl, hp_2b⟩ | ⟨rfl, hp_2b⟩
  · have hP : va_P G vwCl [(h0, .inr (11, [.int 0, .ref a1, .int 0, .ref a2, .int 0, .int 0, .int 0, .int 0, .int (-1), .ref a3, .ref a4, .int 0, .int 0, .int 0, .ref a5, .ref a6, .int 0, .int (-1), .int 0, .int 0, .ref a7, .ref a8, .ref a9, .ref a10, .int 0, .int 0, .ref a11, .ref a12, .int 0, .int 0, .ref a13, .ref a14, .ref a15, .int 0, .int 0, .ref a16, .ref a17, .ref a18]))] H := hP
    have hD : va_D A [(h0, .inr (11, [.int 0, .ref a1, .int 0, .ref a2, .int 0, .int 0, .int 0, .int 0, .int (-1), .ref a3, .ref a4, .int 0, .int 0, .int 0, .ref a5, .ref a6, .int 0, .int (-1), .int 0, .int 0, .ref a7, .ref a8, .ref a9, .ref a10, .int 0, .int 0, .ref a11, .ref a12, .int 0, .int 0, .ref a13, .ref a14, .ref a15, .int 0, .int 0, .ref a16, .ref a17, .ref a18]))] := hD
    refine W.eq (g2 := F0 m 11 ls [.int 1]) rfl ?_
    refine W.widen (k := 0) (n := 0) (Nat.le_of_ble_eq_true rfl) (Nat.le_of_ble_eq_true rfl) ?_
    refine lv_if_ne (tgt := 39) hx hb dX12_node_11 (by decide) (fun _ => ?_) (fun c9 => absurd c9 (by decide))
    refine lv_iconst (v := 1) hx hb dX12_node_39 (by decide) ?_
    refine lv_goto (tgt := 44) hx hb dX12_node_40 (by decide) ?_
    refine lv_istore_n (lv' := [(2, .int 1), (0, .ref h0), (1, .int p0)]) hx hb dX12_node_44 rfl hl (by decide) rfl (fun ls hl => ?_)
    refine lv_aload_n hx hb dX12_node_45 rfl (lv_at hl 1 rfl) ?_
    refine lv_iload_n hx hb dX12_node_46 rfl (lv_at hl 0 rfl) ?_
    refine lv_if_ne (tgt := 54) hx hb dX12_node_47 (by decide) (fun _ => ?_) (fun c9 => absurd c9 (by decide))
    refine lv_iconst (v := 0) hx hb dX12_node_54 (by decide) ?_
    refine lv_iconst (v := 1) hx hb dX12_node_55 (by decide) ?_
    refine kt_callV (wc := [(h0, .inr (11, [.int 0, .ref a1, .int 0, .ref a2, .int 0, .int 0, .int 0, .int 0, .int (-1), .ref a3, .ref a4, .int 0, .int 0, .int 0, .ref a5, .ref a6, .int 0, .int (-1), .int 0, .int 0, .ref a7, .ref a8, .ref a9, .ref a10, .int 0, .int 0, .ref a11, .ref a12, .int 0, .int 0, .ref a13, .ref a14, .ref a15, .int 0, .int 0, .ref a16, .ref a17, .ref a18]))]) (wr := []) (As := [.int 0, .int 1]) (rest := []) (c_X12_throwsIf_0 l G cy h0 a1 a2 a3 a4 a5 a6 a7 a8 a9 a10 a11 a12 a13 a14 a15 a16 a17 a18 1) m_X12_throwsIf u_1752 hx hb hml hown hU hl.1 hK hP hD hS hA dX12_node_56 [0] [] rfl rfl rfl rfl rfl rfl (Nat.le_of_ble_eq_true rfl) (ci := 11) rfl rfl rfl (fun v9 w9 H locs hw hP hD hS => ?_)
    obtain ⟨rfl, rfl⟩ := hw
    have hP : va_P G vwCl [(h0, .inr (11, [.int 0, .ref a1, .int 0, .ref a2, .int 0, .int 0, .int 0, .int 0, .int (-1), .ref a3, .ref a4, .int 0, .int 0, .int 0, .ref a5, .ref a6, .int 0, .int (-1), .int 0, .int 0, .ref a7, .ref a8, .ref a9, .ref a10, .int 0, .int 0, .ref a11, .ref a12, .int 0, .int 0, .ref a13, .ref a14, .ref a15, .int 0, .int 0, .ref a16, .ref a17, .ref a18]))] H := hP
    have hD : va_D A [(h0, .inr (11, [.int 0, .ref a1, .int 0, .ref a2, .int 0, .int 0, .int 0, .int 0, .int (-1), .ref a3, .ref a4, .int 0, .int 0, .int 0, .ref a5, .ref a6, .int 0, .int (-1), .int 0, .int 0, .ref a7, .ref a8, .ref a9, .ref a10, .int 0, .int 0, .ref a11, .ref a12, .int 0, .int 0, .ref a13, .ref a14, .ref a15, .int 0, .int 0, .ref a16, .ref a17, .ref a18]))] := hD
    refine W.eq (g2 := F0 m 59 ls [.int 0]) rfl ?_
    refine W.widen (k := 0) (n := 0) (Nat.le_of_ble_eq_true rfl) (Nat.le_of_ble_eq_true rfl) ?_
    refine lv_if_eq (tgt := 64) hx hb dX12_node_59 (by decide) (fun _ => ?_) (fun c9 => absurd (by decide) c9)
    refine lv_iload_n hx hb dX12_node_64 rfl (lv_at hl 2 rfl) ?_
    refine lv_bipush (v := 10) hx hb dX12_node_65 (by decide) ?_
    refine lv_icmp_lt (tgt := 80) hx hb dX12_node_67 (by decide) (fun _ => ?_) (fun c9 => absurd (lx_lt10 (by assumption)) c9)
    refine lv_iconst (v := 0) hx hb dX12_node_80 (by decide) ?_
    refine lv_istore_n (lv' := [(3, .int 0), (2, .int 1), (0, .ref h0), (1, .int p0)]) hx hb dX12_node_81 rfl hl (by decide) rfl (fun ls hl => ?_)
    refine lv_iconst (v := 0) hx hb dX12_node_82 (by decide) ?_
    refine lv_istore (lv' := [(4, .int 0), (3, .int 0), (2, .int 1), (0, .ref h0), (1, .int p0)]) hx hb dX12_node_83 hl (by decide) rfl (fun ls hl => ?_)
    refine lv_iload hx hb dX12_node_85 (lv_at hl 0 rfl) ?_
    refine lv_bipush (v := 6) hx hb dX12_node_87 (by decide) ?_
    refine lv_icmp_ge (tgt := 131) hx hb dX12_node_89 (by decide) (fun c9 => absurd c9 (by decide)) (fun _ => ?_)
    refine lv_iload_n hx hb dX12_node_92 rfl (lv_at hl 1 rfl) ?_
    refine lv_aload_n hx hb dX12_node_93 rfl (lv_at hl 3 rfl) ?_
    refine va_get (D := G) (ci := 11) (v := .int 0) (C := RX12) (T := TX12) (N := 38) hx hb hU in_X12 hown hK.1 hP 0 rfl rfl 16 (by decide) (hU _ u_1521) (fun _ h9 => h9) rfl dX12_node_94 ?_
    refine lv_iload hx hb dX12_node_97 (lv_at hl 0 rfl) ?_
    refine kt_callS (wc := []) (wr := [(h0, .inr (11, [.int 0, .ref a1, .int 0, .ref a2, .int 0, .int 0, .int 0, .int 0, .int (-1), .ref a3, .ref a4, .int 0, .int 0, .int 0, .ref a5, .ref a6, .int 0, .int (-1), .int 0, .int 0, .ref a7, .ref a8, .ref a9, .ref a10, .int 0, .int 0, .ref a11, .ref a12, .int 0, .int 0, .ref a13, .ref a14, .ref a15, .int 0, .int 0, .ref a16, .ref a17, .ref a18]))]) (As := [.int 0, .int 0]) (rest := [.int 0]) (c_X12_isIn l G cy 0) m_X12_isIn u_1712 hx hb hml hown hU hl.1 hK hP hD hS hA dX12_node_99 [] [0] rfl rfl rfl rfl rfl rfl (Nat.le_of_ble_eq_true rfl) (fun v9 w9 H locs hw hP hD hS => ?_)
    obtain ⟨rfl, rfl⟩ := hw
    have hP : va_P G vwCl [(h0, .inr (11, [.int 0, .ref a1, .int 0, .ref a2, .int 0, .int 0, .int 0, .int 0, .int (-1), .ref a3, .ref a4, .int 0, .int 0, .int 0, .ref a5, .ref a6, .int 0, .int (-1), .int 0, .int 0, .ref a7, .ref a8, .ref a9, .ref a10, .int 0, .int 0, .ref a11, .ref a12, .int 0, .int 0, .ref a13, .ref a14, .ref a15, .int 0, .int 0, .ref a16, .ref a17, .ref a18]))] H := hP
    have hD : va_D A [(h0, .inr (11, [.int 0, .ref a1, .int 0, .ref a2, .int 0, .int 0, .int 0, .int 0, .int (-1), .ref a3, .ref a4, .int 0, .int 0, .int 0, .ref a5, .ref a6, .int 0, .int (-1), .int 0, .int 0, .ref a7, .ref a8, .ref a9, .ref a10, .int 0, .int 0, .ref a11, .ref a12, .int 0, .int 0, .ref a13, .ref a14, .ref a15, .int 0, .int 0, .ref a16, .ref a17, .ref a18]))] := hD
    refine W.eq (g2 := F0 m 102 ls [.int 0, .int 0]) rfl ?_
    refine W.widen (k := 0) (n := 0) (Nat.le_of_ble_eq_true rfl) (Nat.le_of_ble_eq_true rfl) ?_
    refine lv_if_eq (tgt := 122) hx hb dX12_node_102 (by decide) (fun _ => ?_) (fun c9 => absurd (by decide) c9)
    refine lv_iconst (v := 0) hx hb dX12_node_122 (by decide) ?_
    refine lv_ior hx hb dX12_node_123 (lx_top (y := 0) (by decide +kernel) ?_)
    refine lv_istore_n (lv' := [(3, .int 0), (4, .int 0), (2, .int 1), (0, .ref h0), (1, .int p0)]) hx hb dX12_node_124 rfl hl (by decide) rfl (fun ls hl => ?_)
    refine lv_iinc (v := 1) (lv' := [(4, .int 1), (3, .int 0), (2, .int 1), (0, .ref h0), (1, .int p0)]) hx hb dX12_node_125 hl (k := 1) rfl (by decide) (by decide) rfl (fun ls hl => ?_)
    refine lv_goto (tgt := 85) hx hb dX12_node_128 (by decide) ?_
    refine lv_iload hx hb dX12_node_85 (lv_at hl 0 rfl) ?_
    refine lv_bipush (v := 6) hx hb dX12_node_87 (by decide) ?_
    refine lv_icmp_ge (tgt := 131) hx hb dX12_node_89 (by decide) (fun c9 => absurd c9 (by decide)) (fun _ => ?_)
    refine lv_iload_n hx hb dX12_node_92 rfl (lv_at hl 1 rfl) ?_
    refine lv_aload_n hx hb dX12_node_93 rfl (lv_at hl 3 rfl) ?_
    refine va_get (D := G) (ci := 11) (v := .int 0) (C := RX12) (T := TX12) (N := 38) hx hb hU in_X12 hown hK.1 hP 0 rfl rfl 16 (by decide) (hU _ u_1521) (fun _ h9 => h9) rfl dX12_node_94 ?_
    refine lv_iload hx hb dX12_node_97 (lv_at hl 0 rfl) ?_
    refine kt_callS (wc := []) (wr := [(h0, .inr (11, [.int 0, .ref a1, .int 0, .ref a2, .int 0, .int 0, .int 0, .int 0, .int (-1), .ref a3, .ref a4, .int 0, .int 0, .int 0, .ref a5, .ref a6, .int 0, .int (-1), .int 0, .int 0, .ref a7, .ref a8, .ref a9, .ref a10, .int 0, .int 0, .ref a11, .ref a12, .int 0, .int 0, .ref a13, .ref a14, .ref a15, .int 0, .int 0, .ref a16, .ref a17, .ref a18]))]) (As := [.int 0, .int 1]) (rest := [.int 0]) (c_X12_isIn l G cy 1) m_X12_isIn u_1712 hx hb hml hown hU hl.1 hK hP hD hS hA dX12_node_99 [] [0] rfl rfl rfl rfl rfl rfl (Nat.le_of_ble_eq_true rfl) (fun v9 w9 H locs hw hP hD hS => ?_)
    obtain ⟨rfl, rfl⟩ := hw
    have hP : va_P G vwCl [(h0, .inr (11, [.int 0, .ref a1, .int 0, .ref a2, .int 0, .int 0, .int 0, .int 0, .int (-1), .ref a3, .ref a4, .int 0, .int 0, .int 0, .ref a5, .ref a6, .int 0, .int (-1), .int 0, .int 0, .ref a7, .ref a8, .ref a9, .ref a10, .int 0, .int 0, .ref a11, .ref a12, .int 0, .int 0, .ref a13, .ref a14, .ref a15, .int 0, .int 0, .ref a16, .ref a17, .ref a18]))] H := hP
    have hD : va_D A [(h0, .inr (11, [.int 0, .ref a1, .int 0, .ref a2, .int 0, .int 0, .int 0, .int 0, .int (-1), .ref a3, .ref a4, .int 0, .int 0, .int 0, .ref a5, .ref a6, .int 0, .int (-1), .int 0, .int 0, .ref a7, .ref a8, .ref a9, .ref a10, .int 0, .int 0, .ref a11, .ref a12, .int 0, .int 0, .ref a13, .ref a14, .ref a15, .int 0, .int 0, .ref a16, .ref a17, .ref a18]))] := hD
    refine W.eq (g2 := F0 m 102 ls [.int 0, .int 0]) rfl ?_
    refine W.widen (k := 0) (n := 0) (Nat.le_of_ble_eq_true rfl) (Nat.le_of_ble_eq_true rfl) ?_
    refine lv_if_eq (tgt := 122) hx hb dX12_node_102 (by decide) (fun _ => ?_) (fun c9 => absurd (by decide) c9)
    refine lv_iconst (v := 0) hx hb dX12_node_122 (by decide) ?_
    refine lv_ior hx hb dX12_node_123 (lx_top (y := 0) (by decide +kernel) ?_)
    refine lv_istore_n (lv' := [(3, .int 0), (4, .int 1), (2, .int 1), (0, .ref h0), (1, .int p0)]) hx hb dX12_node_124 rfl hl (by decide) rfl (fun ls hl => ?_)
    refine lv_iinc (v := 2) (lv' := [(4, .int 2), (3, .int 0), (2, .int 1), (0, .ref h0), (1, .int p0)]) hx hb dX12_node_125 hl (k := 1) rfl (by decide) (by decide) rfl (fun ls hl => ?_)
    refine lv_goto (tgt := 85) hx hb dX12_node_128 (by decide) ?_
    refine lv_iload hx hb dX12_node_85 (lv_at hl 0 rfl) ?_
    refine lv_bipush (v := 6) hx hb dX12_node_87 (by decide) ?_
    refine lv_icmp_ge (tgt := 131) hx hb dX12_node_89 (by decide) (fun c9 => absurd c9 (by decide)) (fun _ => ?_)
    refine lv_iload_n hx hb dX12_node_92 rfl (lv_at hl 1 rfl) ?_
    refine lv_aload_n hx hb dX12_node_93 rfl (lv_at hl 3 rfl) ?_
    refine va_get (D := G) (ci := 11) (v := .int 0) (C := RX12) (T := TX12) (N := 38) hx hb hU in_X12 hown hK.1 hP 0 rfl rfl 16 (by decide) (hU _ u_1521) (fun _ h9 => h9) rfl dX12_node_94 ?_
    refine lv_iload hx hb dX12_node_97 (lv_at hl 0 rfl) ?_
    refine kt_callS (wc := []) (wr := [(h0, .inr (11, [.int 0, .ref a1, .int 0, .ref a2, .int 0, .int 0, .int 0, .int 0, .int (-1), .ref a3, .ref a4, .int 0, .int 0, .int 0, .ref a5, .ref a6, .int 0, .int (-1), .int 0, .int 0, .ref a7, .ref a8, .ref a9, .ref a10, .int 0, .int 0, .ref a11, .ref a12, .int 0, .int 0, .ref a13, .ref a14, .ref a15, .int 0, .int 0, .ref a16, .ref a17, .ref a18]))]) (As := [.int 0, .int 2]) (rest := [.int 0]) (c_X12_isIn l G cy 2) m_X12_isIn u_1712 hx hb hml hown hU hl.1 hK hP hD hS hA dX12_node_99 [] [0] rfl rfl rfl rfl rfl rfl (Nat.le_of_ble_eq_true rfl) (fun v9 w9 H locs hw hP hD hS => ?_)
    obtain ⟨rfl, rfl⟩ := hw
    have hP : va_P G vwCl [(h0, .inr (11, [.int 0, .ref a1, .int 0, .ref a2, .int 0, .int 0, .int 0, .int 0, .int (-1), .ref a3, .ref a4, .int 0, .int 0, .int 0, .ref a5, .ref a6, .int 0, .int (-1), .int 0, .int 0, .ref a7, .ref a8, .ref a9, .ref a10, .int 0, .int 0, .ref a11, .ref a12, .int 0, .int 0, .ref a13, .ref a14, .ref a15, .int 0, .int 0, .ref a16, .ref a17, .ref a18]))] H := hP
    have hD : va_D A [(h0, .inr (11, [.int 0, .ref a1, .int 0, .ref a2, .int 0, .int 0, .int 0, .int 0, .int (-1), .ref a3, .ref a4, .int 0, .int 0, .int 0, .ref a5, .ref a6, .int 0, .int (-1), .int 0, .int 0, .ref a7, .ref a8, .ref a9, .ref a10, .int 0, .int 0, .ref a11, .ref a12, .int 0, .int 0, .ref a13, .ref a14, .ref a15, .int 0, .int 0, .ref a16, .ref a17, .ref a18]))] := hD
    refine W.eq (g2 := F0 m 102 ls [.int 0, .int 0]) rfl ?_
    refine W.widen (k := 0) (n := 0) (Nat.le_of_ble_eq_true rfl) (Nat.le_of_ble_eq_true rfl) ?_
    refine lv_if_eq (tgt := 122) hx hb dX12_node_102 (by decide) (fun _ => ?_) (fun c9 => absurd (by decide) c9)
    refine lv_iconst (v := 0) hx hb dX12_node_122 (by decide) ?_
    refine lv_ior hx hb dX12_node_123 (lx_top (y := 0) (by decide +kernel) ?_)
    refine lv_istore_n (lv' := [(3, .int 0), (4, .int 2), (2, .int 1), (0, .ref h0), (1, .int p0)]) hx hb dX12_node_124 rfl hl (by decide) rfl (fun ls hl => ?_)
    refine lv_iinc (v := 3) (lv' := [(4, .int 3), (3, .int 0), (2, .int 1), (0, .ref h0), (1, .int p0)]) hx hb dX12_node_125 hl (k := 1) rfl (by decide) (by decide) rfl (fun ls hl => ?_)
    refine lv_goto (tgt := 85) hx hb dX12_node_128 (by decide) ?_
    refine lv_iload hx hb dX12_node_85 (lv_at hl 0 rfl) ?_
    refine lv_bipush (v := 6) hx hb dX12_node_87 (by decide) ?_
    refine lv_icmp_ge (tgt := 131) hx hb dX12_node_89 (by decide) (fun c9 => absurd c9 (by decide)) (fun _ => ?_)
    refine lv_iload_n hx hb dX12_node_92 rfl (lv_at hl 1 rfl) ?_
    refine lv_aload_n hx hb dX12_node_93 rfl (lv_at hl 3 rfl) ?_
    refine va_get (D := G) (ci := 11) (v := .int 0) (C := RX12) (T := TX12) (N := 38) hx hb hU in_X12 hown hK.1 hP 0 rfl rfl 16 (by decide) (hU _ u_1521) (fun _ h9 => h9) rfl dX12_node_94 ?_
    refine lv_iload hx hb dX12_node_97 (lv_at hl 0 rfl) ?_
    refine kt_callS (wc := []) (wr := [(h0, .inr (11, [.int 0, .ref a1, .int 0, .ref a2, .int 0, .int 0, .int 0, .int 0, .int (-1), .ref a3, .ref a4, .int 0, .int 0, .int 0, .ref a5, .ref a6, .int 0, .int (-1), .int 0, .int 0, .ref a7, .ref a8, .ref a9, .ref a10, .int 0, .int 0, .ref a11, .ref a12, .int 0, .int 0, .ref a13, .ref a14, .ref a15, .int 0, .int 0, .ref a16, .ref a17, .ref a18]))]) (As := [.int 0, .int 3]) (rest := [.int 0]) (c_X12_isIn l G cy 3) m_X12_isIn u_1712 hx hb hml hown hU hl.1 hK hP hD hS hA dX12_node_99 [] [0] rfl rfl rfl rfl rfl rfl (Nat.le_of_ble_eq_true rfl) (fun v9 w9 H locs hw hP hD hS => ?_)
    obtain ⟨rfl, rfl⟩ := hw
    have hP : va_P G vwCl [(h0, .inr (11, [.int 0, .ref a1, .int 0, .ref a2, .int 0, .int 0, .int 0, .int 0, .int (-1), .ref a3, .ref a4, .int 0, .int 0, .int 0, .ref a5, .ref a6, .int 0, .int (-1), .int 0, .int 0, .ref a7, .ref a8, .ref a9, .ref a10, .int 0, .int 0, .ref a11, .ref a12, .int 0, .int 0, .ref a13, .ref a14, .ref a15, .int 0, .int 0, .ref a16, .ref a17, .ref a18]))] H := hP
    have hD : va_D A [(h0, .inr (11, [.int 0, .ref a1, .int 0, .ref a2, .int 0, .int 0, .int 0, .int 0, .int (-1), .ref a3, .ref a4, .int 0, .int 0, .int 0, .ref a5, .ref a6, .int 0, .int (-1), .int 0, .int 0, .ref a7, .ref a8, .ref a9, .ref a10, .int 0, .int 0, .ref a11, .ref a12, .int 0, .int 0, .ref a13, .ref a14, .ref a15, .int 0, .int 0, .ref a16, .ref a17, .ref a18]))] := hD
    refine W.eq (g2 := F0 m 102 ls [.int 0, .int 0]) rfl ?_
    refine W.widen (k := 0) (n := 0) (Nat.le_of_ble_eq_true rfl) (Nat.le_of_ble_eq_true rfl) ?_
    refine lv_if_eq (tgt := 122) hx hb dX12_node_102 (by decide) (fun _ => ?_) (fun c9 => absurd (by decide) c9)
    refine lv_iconst (v := 0) hx hb dX12_node_122 (by decide) ?_
    refine lv_ior hx hb dX12_node_123 (lx_top (y := 0) (by decide +kernel) ?_)
    refine lv_istore_n (lv' := [(3, .int 0), (4, .int 3), (2, .int 1), (0, .ref h0), (1, .int p0)]) hx hb dX12_node_124 rfl hl (by decide) rfl (fun ls hl => ?_)
    refine lv_iinc (v := 4) (lv' := [(4, .int 4), (3, .int 0), (2, .int 1), (0, .ref h0), (1, .int p0)]) hx hb dX12_node_125 hl (k := 1) rfl (by decide) (by decide) rfl (fun ls hl => ?_)
    refine lv_goto (tgt := 85) hx hb dX12_node_128 (by decide) ?_
    refine lv_iload hx hb dX12_node_85 (lv_at hl 0 rfl) ?_
    refine lv_bipush (v := 6) hx hb dX12_node_87 (by decide) ?_
    refine lv_icmp_ge (tgt := 131) hx hb dX12_node_89 (by decide) (fun c9 => absurd c9 (by decide)) (fun _ => ?_)
    refine lv_iload_n hx hb dX12_node_92 rfl (lv_at hl 1 rfl) ?_
    refine lv_aload_n hx hb dX12_node_93 rfl (lv_at hl 3 rfl) ?_
    refine va_get (D := G) (ci := 11) (v := .int 0) (C := RX12) (T := TX12) (N := 38) hx hb hU in_X12 hown hK.1 hP 0 rfl rfl 16 (by decide) (hU _ u_1521) (fun _ h9 => h9) rfl dX12_node_94 ?_
    refine lv_iload hx hb dX12_node_97 (lv_at hl 0 rfl) ?_
    refine kt_callS (wc := []) (wr := [(h0, .inr (11, [.int 0, .ref a1, .int 0, .ref a2, .int 0, .int 0, .int 0, .int 0, .int (-1), .ref a3, .ref a4, .int 0, .int 0, .int 0, .ref a5, .ref a6, .int 0, .int (-1), .int 0, .int 0, .ref a7, .ref a8, .ref a9, .ref a10, .int 0, .int 0, .ref a11, .ref a12, .int 0, .int 0, .ref a13, .ref a14, .ref a15, .int 0, .int 0, .ref a16, .ref a17, .ref a18]))]) (As := [.int 0, .int 4]) (rest := [.int 0]) (c_X12_isIn l G cy 4) m_X12_isIn u_1712 hx hb hml hown hU hl.1 hK hP hD hS hA dX12_node_99 [] [0] rfl rfl rfl rfl rfl rfl (Nat.le_of_ble_eq_true rfl) (fun v9 w9 H locs hw hP hD hS => ?_)
    obtain ⟨rfl, rfl⟩ := hw
    have hP : va_P G vwCl [(h0, .inr (11, [.int 0, .ref a1, .int 0, .ref a2, .int 0, .int 0, .int 0, .int 0, .int (-1), .ref a3, .ref a4, .int 0, .int 0, .int 0, .ref a5, .ref a6, .int 0, .int (-1), .int 0, .int 0, .ref a7, .ref a8, .ref a9, .ref a10, .int 0, .int 0, .ref a11, .ref a12, .int 0, .int 0, .ref a13, .ref a14, .ref a15, .int 0, .int 0, .ref a16, .ref a17, .ref a18]))] H := hP
    have hD : va_D A [(h0, .inr (11, [.int 0, .ref a1, .int 0, .ref a2, .int 0, .int 0, .int 0, .int 0, .int (-1), .ref a3, .ref a4, .int 0, .int 0, .int 0, .ref a5, .ref a6, .int 0, .int (-1), .int 0, .int 0, .ref a7, .ref a8, .ref a9, .ref a10, .int 0, .int 0, .ref a11, .ref a12, .int 0, .int 0, .ref a13, .ref a14, .ref a15, .int 0, .int 0, .ref a16, .ref a17, .ref a18]))] := hD
    refine W.eq (g2 := F0 m 102 ls [.int 0, .int 0]) rfl ?_
    refine W.widen (k := 0) (n := 0) (Nat.le_of_ble_eq_true rfl) (Nat.le_of_ble_eq_true rfl) ?_
    refine lv_if_eq (tgt := 122) hx hb dX12_node_102 (by decide) (fun _ => ?_) (fun c9 => absurd (by decide) c9)
    refine lv_iconst (v := 0) hx hb dX12_node_122 (by decide) ?_
    refine lv_ior hx hb dX12_node_123 (lx_top (y := 0) (by decide +kernel) ?_)
    refine lv_istore_n (lv' := [(3, .int 0), (4, .int 4), (2, .int 1), (0, .ref h0), (1, .int p0)]) hx hb dX12_node_124 rfl hl (by decide) rfl (fun ls hl => ?_)
    refine lv_iinc (v := 5) (lv' := [(4, .int 5), (3, .int 0), (2, .int 1), (0, .ref h0), (1, .int p0)]) hx hb dX12_node_125 hl (k := 1) rfl (by decide) (by decide) rfl (fun ls hl => ?_)
    refine lv_goto (tgt := 85) hx hb dX12_node_128 (by decide) ?_
    refine lv_iload hx hb dX12_node_85 (lv_at hl 0 rfl) ?_
    refine lv_bipush (v := 6) hx hb dX12_node_87 (by decide) ?_
    refine lv_icmp_ge (tgt := 131) hx hb dX12_node_89 (by decide) (fun c9 => absurd c9 (by decide)) (fun _ => ?_)
    refine lv_iload_n hx hb dX12_node_92 rfl (lv_at hl 1 rfl) ?_
    refine lv_aload_n hx hb dX12_node_93 rfl (lv_at hl 3 rfl) ?_
    refine va_get (D := G) (ci := 11) (v := .int 0) (C := RX12) (T := TX12) (N := 38) hx hb hU in_X12 hown hK.1 hP 0 rfl rfl 16 (by decide) (hU _ u_1521) (fun _ h9 => h9) rfl dX12_node_94 ?_
    refine lv_iload hx hb dX12_node_97 (lv_at hl 0 rfl) ?_
    refine kt_callS (wc := []) (wr := [(h0, .inr (11, [.int 0, .ref a1, .int 0, .ref a2, .int 0, .int 0, .int 0, .int 0, .int (-1), .ref a3, .ref a4, .int 0, .int 0, .int 0, .ref a5, .ref a6, .int 0, .int (-1), .int 0, .int 0, .ref a7, .ref a8, .ref a9, .ref a10, .int 0, .int 0, .ref a11, .ref a12, .int 0, .int 0, .ref a13, .ref a14, .ref a15, .int 0, .int 0, .ref a16, .ref a17, .ref a18]))]) (As := [.int 0, .int 5]) (rest := [.int 0]) (c_X12_isIn l G cy 5) m_X12_isIn u_1712 hx hb hml hown hU hl.1 hK hP hD hS hA dX12_node_99 [] [0] rfl rfl rfl rfl rfl rfl (Nat.le_of_ble_eq_true rfl) (fun v9 w9 H locs hw hP hD hS => ?_)
    obtain ⟨rfl, rfl⟩ := hw
    have hP : va_P G vwCl [(h0, .inr (11, [.int 0, .ref a1, .int 0, .ref a2, .int 0, .int 0, .int 0, .int 0, .int (-1), .ref a3, .ref a4, .int 0, .int 0, .int 0, .ref a5, .ref a6, .int 0, .int (-1), .int 0, .int 0, .ref a7, .ref a8, .ref a9, .ref a10, .int 0, .int 0, .ref a11, .ref a12, .int 0, .int 0, .ref a13, .ref a14, .ref a15, .int 0, .int 0, .ref a16, .ref a17, .ref a18]))] H := hP
    have hD : va_D A [(h0, .inr (11, [.int 0, .ref a1, .int 0, .ref a2, .int 0, .int 0, .int 0, .int 0, .int (-1), .ref a3, .ref a4, .int 0, .int 0, .int 0, .ref a5, .ref a6, .int 0, .int (-1), .int 0, .int 0, .ref a7, .ref a8, .ref a9, .ref a10, .int 0, .int 0, .ref a11, .ref a12, .int 0, .int 0, .ref a13, .ref a14, .ref a15, .int 0, .int 0, .ref a16, .ref a17, .ref a18]))] := hD
    refine W.eq (g2 := F0 m 102 ls [.int 0, .int 0]) rfl ?_
    refine W.widen (k := 0) (n := 0) (Nat.le_of_ble_eq_true rfl) (Nat.le_of_ble_eq_true rfl) ?_
    refine lv_if_eq (tgt := 122) hx hb dX12_node_102 (by decide) (fun _ => ?_) (fun c9 => absurd (by decide) c9)
    refine lv_iconst (v := 0) hx hb dX12_node_122 (by decide) ?_
    refine lv_ior hx hb dX12_node_123 (lx_top (y := 0) (by decide +kernel) ?_)
    refine lv_istore_n (lv' := [(3, .int 0), (4, .int 5), (2, .int 1), (0, .ref h0), (1, .int p0)]) hx hb dX12_node_124 rfl hl (by decide) rfl (fun ls hl => ?_)
    refine lv_iinc (v := 6) (lv' := [(4, .int 6), (3, .int 0), (2, .int 1), (0, .ref h0), (1, .int p0)]) hx hb dX12_node_125 hl (k := 1) rfl (by decide) (by decide) rfl (fun ls hl => ?_)
    refine lv_goto (tgt := 85) hx hb dX12_node_128 (by decide) ?_
    refine lv_iload hx hb dX12_node_85 (lv_at hl 0 rfl) ?_
    refine lv_bipush (v := 6) hx hb dX12_node_87 (by decide) ?_
    refine lv_icmp_ge (tgt := 131) hx hb dX12_node_89 (by decide) (fun _ => ?_) (fun c9 => absurd (by decide) c9)
    refine lv_iload_n hx hb dX12_node_131 rfl (lv_at hl 4 rfl) ?_
    refine lv_if_ne (tgt := 142) hx hb dX12_node_132 (by decide) (fun c_3 => ?_) (fun c_3 => ?_)
    · refine lv_iload_n hx hb dX12_node_142 rfl (lv_at hl 4 rfl) ?_
      refine lv_iconst (v := 1) hx hb dX12_node_143 (by decide) ?_
      refine lv_icmp_ne (tgt := 151) hx hb dX12_node_144 (by decide) (fun c_4 => ?_) (fun c_4 => ?_)
      · refine lv_aload_n hx hb dX12_node_151 rfl (lv_at hl 3 rfl) ?_
        refine va_get (D := G) (ci := 11) (v := .int (-1)) (C := RX12) (T := TX12) (N := 38) hx hb hU in_X12 hown hK.1 hP 0 rfl rfl 17 (by decide) (hU _ u_1522) (fun _ h9 => h9) rfl dX12_node_152 ?_
        exact kt_iret hx hb hr hlocks hP hD hS dX12_node_155 [0] rfl rfl rfl rfl ⟨0, (-1), rfl, rfl, (Or.inr ⟨rfl, okNode_of (by assumption), by rcases okNode_of (k := p0) (by assumption) with h9 | h9 | h9 <;> simp_all [sp_node]⟩)⟩
      · refine lv_iload_n hx hb dX12_node_147 rfl (lv_at hl 1 rfl) ?_
        refine lv_goto (tgt := 155) hx hb dX12_node_148 (by decide) ?_
        exact kt_iret hx hb hr hlocks hP hD hS dX12_node_155 [0] rfl rfl rfl rfl ⟨0, 0, rfl, rfl, (Or.inr ⟨rfl, okNode_of (by assumption), by rcases okNode_of (k := p0) (by assumption) with h9 | h9 | h9 <;> simp_all [sp_node]⟩)⟩
    · refine lv_aload_n hx hb dX12_node_135 rfl (lv_at hl 3 rfl) ?_
      refine va_get (D := G) (ci := 11) (v := .int 0) (C := RX12) (T := TX12) (N := 38) hx hb hU in_X12 hown hK.1 hP 0 rfl rfl 16 (by decide) (hU _ u_1521) (fun _ h9 => h9) rfl dX12_node_136 ?_
      refine lv_goto (tgt := 155) hx hb dX12_node_139 (by decide) ?_
      exact kt_iret hx hb hr hlocks hP hD hS dX12_node_155 [0] rfl rfl rfl rfl ⟨0, 0, rfl, rfl, (Or.inr ⟨rfl, okNode_of (by assumption), by rcases okNode_of (k := p0) (by assumption) with h9 | h9 | h9 <;> simp_all [sp_node]⟩)⟩
  · have hP : va_P G vwCl [(h0, .inr (11, [.int 0, .ref a1, .int 0, .ref a2, .int 0, .int 0, .int 0, .int 0, .int (-1), .ref a3, .ref a4, .int 0, .int 0, .int 0, .ref a5, .ref a6, .int 0, .int (-1), .int 0, .int 0, .ref a7, .ref a8, .ref a9, .ref a10, .int 0, .int 0, .ref a11, .ref a12, .int 0, .int 0, .ref a13, .ref a14, .ref a15, .int 0, .int 0, .ref a16, .ref a17, .ref a18]))] H := hP
    have hD : va_D A [(h0, .inr (11, [.int 0, .ref a1, .int 0, .ref a2, .int 0, .int 0, .int 0, .int 0, .int (-1), .ref a3, .ref a4, .int 0, .int 0, .int 0, .ref a5, .ref a6, .int 0, .int (-1), .int 0, .int 0, .ref a7, .ref a8, .ref a9, .ref a10, .int 0, .int 0, .ref a11, .ref a12, .int 0, .int 0, .ref a13, .ref a14, .ref a15, .int 0, .int 0, .ref a16, .ref a17, .ref a18]))] := hD
    refine W.eq (g2 := F0 m 11 ls [.int 0]) rfl ?_
    refine W.widen (k := 0) (n := 0) (Nat.le_of_ble_eq_true rfl) (Nat.le_of_ble_eq_true rfl) ?_
    refine lv_if_ne (tgt := 39) hx hb dX12_node_11 (by decide) (fun c9 => absurd (by decide) c9) (fun _ => ?_)
    refine lv_iload_n hx hb dX12_node_14 rfl (lv_at hl 1 rfl) ?_
    refine lv_bipush (v := 10) hx hb dX12_node_15 (by decide) ?_
    refine lv_bipush (v := 15) hx hb dX12_node_17 (by decide) ?_
    refine kt_callS (wc := []) (wr := [(h0, .inr (11, [.int 0, .ref a1, .int 0, .ref a2, .int 0, .int 0, .int 0, .int 0, .int (-1), .ref a3, .ref a4, .int 0, .int 0, .int 0, .ref a5, .ref a6, .int 0, .int (-1), .int 0, .int 0, .ref a7, .ref a8, .ref a9, .ref a10, .int 0, .int 0, .ref a11, .ref a12, .int 0, .int 0, .ref a13, .ref a14, .ref a15, .int 0, .int 0, .ref a16, .ref a17, .ref a18]))]) (As := [.int p0, .int 10, .int 15]) (rest := []) (c_X12_in l G cy p0 10 15) m_X12_in u_1732 hx hb hml hown hU hl.1 hK hP hD hS hA dX12_node_19 [] [0] rfl rfl rfl rfl rfl rfl (Nat.le_of_ble_eq_true rfl) (fun v9 w9 H locs hw hP hD hS => ?_)
    obtain ⟨x_5, rfl, rfl, hp_6⟩ := hw
    rcases hp_6 with ⟨rfl, hp_6b⟩ | ⟨rfl, hp_6b⟩
    · have hP : va_P G vwCl [(h0, .inr (11, [.int 0, .ref a1, .int 0, .ref a2, .int 0, .int 0, .int 0, .int 0, .int (-1), .ref a3, .ref a4, .int 0, .int 0, .int 0, .ref a5, .ref a6, .int 0, .int (-1), .int 0, .int 0, .ref a7, .ref a8, .ref a9, .ref a10, .int 0, .int 0, .ref a11, .ref a12, .int 0, .int 0, .ref a13, .ref a14, .ref a15, .int 0, .int 0, .ref a16, .ref a17, .ref a18]))] H := hP
      have hD : va_D A [(h0, .inr (11, [.int 0, .ref a1, .int 0, .ref a2, .int 0, .int 0, .int 0, .int 0, .int (-1), .ref a3, .ref a4, .int 0, .int 0, .int 0, .ref a5, .ref a6, .int 0, .int (-1), .int 0, .int 0, .ref a7, .ref a8, .ref a9, .ref a10, .int 0, .int 0, .ref a11, .ref a12, .int 0, .int 0, .ref a13, .ref a14, .ref a15, .int 0, .int 0, .ref a16, .ref a17, .ref a18]))] := hD
      refine W.eq (g2 := F0 m 22 ls [.int 1]) rfl ?_
      refine W.widen (k := 0) (n := 0) (Nat.le_of_ble_eq_true rfl) (Nat.le_of_ble_eq_true rfl) ?_
      refine lv_if_eq (tgt := 43) hx hb dX12_node_22 (by decide) (fun c9 => absurd c9 (by decide)) (fun _ => ?_)
      refine lv_aload_n hx hb dX12_node_25 rfl (lv_at hl 0 rfl) ?_
      refine va_get (D := G) (ci := 11) (v := .int 0) (C := RX12) (T := TX12) (N := 38) hx hb hU in_X12 hown hK.1 hP 0 rfl rfl 16 (by decide) (hU _ u_1521) (fun _ h9 => h9) rfl dX12_node_26 ?_
      refine lv_iload_n hx hb dX12_node_29 rfl (lv_at hl 1 rfl) ?_
      refine lv_bipush (v := 10) hx hb dX12_node_30 (by decide) ?_
      refine lv_isub hx hb dX12_node_32 ?_
      refine kt_callS (wc := []) (wr := [(h0, .inr (11, [.int 0, .ref a1, .int 0, .ref a2, .int 0, .int 0, .int 0, .int 0, .int (-1), .ref a3, .ref a4, .int 0, .int 0, .int 0, .ref a5, .ref a6, .int 0, .int (-1), .int 0, .int 0, .ref a7, .ref a8, .ref a9, .ref a10, .int 0, .int 0, .ref a11, .ref a12, .int 0, .int 0, .ref a13, .ref a14, .ref a15, .int 0, .int 0, .ref a16, .ref a17, .ref a18]))]) (As := [.int 0, .int (p0 - 10)]) (rest := []) (c_X12_isIn l G cy (p0 - 10)) m_X12_isIn u_1712 hx hb hml hown hU hl.1 hK hP hD hS hA dX12_node_33 [] [0] rfl rfl rfl rfl rfl rfl (Nat.le_of_ble_eq_true rfl) (fun v9 w9 H locs hw hP hD hS => ?_)
      obtain ⟨rfl, rfl⟩ := hw
      have hP : va_P G vwCl [(h0, .inr (11, [.int 0, .ref a1, .int 0, .ref a2, .int 0, .int 0, .int 0, .int 0, .int (-1), .ref a3, .ref a4, .int 0, .int 0, .int 0, .ref a5, .ref a6, .int 0, .int (-1), .int 0, .int 0, .ref a7, .ref a8, .ref a9, .ref a10, .int 0, .int 0, .ref a11, .ref a12, .int 0, .int 0, .ref a13, .ref a14, .ref a15, .int 0, .int 0, .ref a16, .ref a17, .ref a18]))] H := hP
      have hD : va_D A [(h0, .inr (11, [.int 0, .ref a1, .int 0, .ref a2, .int 0, .int 0, .int 0, .int 0, .int (-1), .ref a3, .ref a4, .int 0, .int 0, .int 0, .ref a5, .ref a6, .int 0, .int (-1), .int 0, .int 0, .ref a7, .ref a8, .ref a9, .ref a10, .int 0, .int 0, .ref a11, .ref a12, .int 0, .int 0, .ref a13, .ref a14, .ref a15, .int 0, .int 0, .ref a16, .ref a17, .ref a18]))] := hD
      refine W.eq (g2 := F0 m 36 ls [.int 0]) rfl ?_
      refine W.widen (k := 0) (n := 0) (Nat.le_of_ble_eq_true rfl) (Nat.le_of_ble_eq_true rfl) ?_
      refine lv_if_eq (tgt := 43) hx hb dX12_node_36 (by decide) (fun _ => ?_) (fun c9 => absurd (by decide) c9)
      refine lv_iconst (v := 0) hx hb dX12_node_43 (by decide) ?_
      refine lv_istore_n (lv' := [(2, .int 0), (0, .ref h0), (1, .int p0)]) hx hb dX12_node_44 rfl hl (by decide) rfl (fun ls hl => ?_)
      refine lv_aload_n hx hb dX12_node_45 rfl (lv_at hl 1 rfl) ?_
      refine lv_iload_n hx hb dX12_node_46 rfl (lv_at hl 0 rfl) ?_
      refine lv_if_ne (tgt := 54) hx hb dX12_node_47 (by decide) (fun c9 => absurd (by decide) c9) (fun _ => ?_)
      refine lv_iconst (v := 1) hx hb dX12_node_50 (by decide) ?_
      refine lv_goto (tgt := 55) hx hb dX12_node_51 (by decide) ?_
      refine lv_iconst (v := 1) hx hb dX12_node_55 (by decide) ?_
      refine kt_callV (wc := [(h0, .inr (11, [.int 0, .ref a1, .int 0, .ref a2, .int 0, .int 0, .int 0, .int 0, .int (-1), .ref a3, .ref a4, .int 0, .int 0, .int 0, .ref a5, .ref a6, .int 0, .int (-1), .int 0, .int 0, .ref a7, .ref a8, .ref a9, .ref a10, .int 0, .int 0, .ref a11, .ref a12, .int 0, .int 0, .ref a13, .ref a14, .ref a15, .int 0, .int 0, .ref a16, .ref a17, .ref a18]))]) (wr := []) (As := [.int 1, .int 1]) (rest := []) (c_X12_throwsIf_1 l G cy h0 a1 a2 a3 a4 a5 a6 a7 a8 a9 a10 a11 a12 a13 a14 a15 a16 a17 a18 1) m_X12_throwsIf u_1752 hx hb hml hown hU hl.1 hK hP hD hS hA dX12_node_56 [0] [] rfl rfl rfl rfl rfl rfl (Nat.le_of_ble_eq_true rfl) (ci := 11) rfl rfl rfl (fun v9 w9 H locs hw hP hD hS => ?_)
      obtain ⟨rfl, rfl⟩ := hw
      have hP : va_P G vwCl [(h0, .inr (11, [.int 1, .ref a1, .int 0, .ref a2, .int 0, .int 0, .int 0, .int 0, .int (-1), .ref a3, .ref a4, .int 0, .int 0, .int 0, .ref a5, .ref a6, .int 0, .int (-1), .int 0, .int 0, .ref a7, .ref a8, .ref a9, .ref a10, .int 0, .int 0, .ref a11, .ref a12, .int 0, .int 0, .ref a13, .ref a14, .ref a15, .int 0, .int 0, .ref a16, .ref a17, .ref a18]))] H := hP
      have hD : va_D A [(h0, .inr (11, [.int 1, .ref a1, .int 0, .ref a2, .int 0, .int 0, .int 0, .int 0, .int (-1), .ref a3, .ref a4, .int 0, .int 0, .int 0, .ref a5, .ref a6, .int 0, .int (-1), .int 0, .int 0, .ref a7, .ref a8, .ref a9, .ref a10, .int 0, .int 0, .ref a11, .ref a12, .int 0, .int 0, .ref a13, .ref a14, .ref a15, .int 0, .int 0, .ref a16, .ref a17, .ref a18]))] := hD
      refine W.eq (g2 := F0 m 59 ls [.int 1]) rfl ?_
      refine W.widen (k := 0) (n := 0) (Nat.le_of_ble_eq_true rfl) (Nat.le_of_ble_eq_true rfl) ?_
      refine lv_if_eq (tgt := 64) hx hb dX12_node_59 (by decide) (fun c9 => absurd c9 (by decide)) (fun _ => ?_)
      refine lv_iconst (v := 0) hx hb dX12_node_62 (by decide) ?_
      exact kt_iret hx hb hr hlocks hP hD hS dX12_node_63 [0] rfl rfl rfl rfl ⟨1, 0, rfl, rfl, (Or.inl ⟨rfl, fun q9 => absurd (okNode_to q9) (by assumption)⟩)⟩
    · have hP : va_P G vwCl [(h0, .inr (11, [.int 0, .ref a1, .int 0, .ref a2, .int 0, .int 0, .int 0, .int 0, .int (-1), .ref a3, .ref a4, .int 0, .int 0, .int 0, .ref a5, .ref a6, .int 0, .int (-1), .int 0, .int 0, .ref a7, .ref a8, .ref a9, .ref a10, .int 0, .int 0, .ref a11, .ref a12, .int 0, .int 0, .ref a13, .ref a14, .ref a15, .int 0, .int 0, .ref a16, .ref a17, .ref a18]))] H := hP
      have hD : va_D A [(h0, .inr (11, [.int 0, .ref a1, .int 0, .ref a2, .int 0, .int 0, .int 0, .int 0, .int (-1), .ref a3, .ref a4, .int 0, .int 0, .int 0, .ref a5, .ref a6, .int 0, .int (-1), .int 0, .int 0, .ref a7, .ref a8, .ref a9, .ref a10, .int 0, .int 0, .ref a11, .ref a12, .int 0, .int 0, .ref a13, .ref a14, .ref a15, .int 0, .int 0, .ref a16, .ref a17, .ref a18]))] := hD
      refine W.eq (g2 := F0 m 22 ls [.int 0]) rfl ?_
      refine W.widen (k := 0) (n := 0) (Nat.le_of_ble_eq_true rfl) (Nat.le_of_ble_eq_true rfl) ?_
      refine lv_if_eq (tgt := 43) hx hb dX12_node_22 (by decide) (fun _ => ?_) (fun c9 => absurd (by decide) c9)
      refine lv_iconst (v := 0) hx hb dX12_node_43 (by decide) ?_
      refine lv_istore_n (lv' := [(2, .int 0), (0, .ref h0), (1, .int p0)]) hx hb dX12_node_44 rfl hl (by decide) rfl (fun ls hl => ?_)
      refine lv_aload_n hx hb dX12_node_45 rfl (lv_at hl 1 rfl) ?_
      refine lv_iload_n hx hb dX12_node_46 rfl (lv_at hl 0 rfl) ?_
      refine lv_if_ne (tgt := 54) hx hb dX12_node_47 (by decide) (fun c9 => absurd (by decide) c9) (fun _ => ?_)
      refine lv_iconst (v := 1) hx hb dX12_node_50 (by decide) ?_
      refine lv_goto (tgt := 55) hx hb dX12_node_51 (by decide) ?_
      refine lv_iconst (v := 1) hx hb dX12_node_55 (by decide) ?_
      refine kt_callV (wc := [(h0, .inr (11, [.int 0, .ref a1, .int 0, .ref a2, .int 0, .int 0, .int 0, .int 0, .int (-1), .ref a3, .ref a4, .int 0, .int 0, .int 0, .ref a5, .ref a6, .int 0, .int (-1), .int 0, .int 0, .ref a7, .ref a8, .ref a9, .ref a10, .int 0, .int 0, .ref a11, .ref a12, .int 0, .int 0, .ref a13, .ref a14, .ref a15, .int 0, .int 0, .ref a16, .ref a17, .ref a18]))]) (wr := []) (As := [.int 1, .int 1]) (rest := []) (c_X12_throwsIf_1 l G cy h0 a1 a2 a3 a4 a5 a6 a7 a8 a9 a10 a11 a12 a13 a14 a15 a16 a17 a18 1) m_X12_throwsIf u_1752 hx hb hml hown hU hl.1 hK hP hD hS hA dX12_node_56 [0] [] rfl rfl rfl rfl rfl rfl (Nat.le_of_ble_eq_true rfl) (ci := 11) rfl rfl rfl (fun v9 w9 H locs hw hP hD hS => ?_)
      obtain ⟨rfl, rfl⟩ := hw
      have hP : va_P G vwCl [(h0, .inr (11, [.int 1, .ref a1, .int 0, .ref a2, .int 0, .int 0, .int 0, .int 0, .int (-1), .ref a3, .ref a4, .int 0, .int 0, .int 0, .ref a5, .ref a6, .int 0, .int (-1), .int 0, .int 0, .ref a7, .ref a8, .ref a9, .ref a10, .int 0, .int 0, .ref a11, .ref a12, .int 0, .int 0, .ref a13, .ref a14, .ref a15, .int 0, .int 0, .ref a16, .ref a17, .ref a18]))] H := hP
      have hD : va_D A [(h0, .inr (11, [.int 1, .ref a1, .int 0, .ref a2, .int 0, .int 0, .int 0, .int 0, .int (-1), .ref a3, .ref a4, .int 0, .int 0, .int 0, .ref a5, .ref a6, .int 0, .int (-1), .int 0, .int 0, .ref a7, .ref a8, .ref a9, .ref a10, .int 0, .int 0, .ref a11, .ref a12, .int 0, .int 0, .ref a13, .ref a14, .ref a15, .int 0, .int 0, .ref a16, .ref a17, .ref a18]))] := hD
      refine W.eq (g2 := F0 m 59 ls [.int 1]) rfl ?_
      refine W.widen (k := 0) (n := 0) (Nat.le_of_ble_eq_true rfl) (Nat.le_of_ble_eq_true rfl) ?_
      refine lv_if_eq (tgt := 64) hx hb dX12_node_59 (by decide) (fun c9 => absurd c9 (by decide)) (fun _ => ?_)
      refine lv_iconst (v := 0) hx hb dX12_node_62 (by decide) ?_
      exact kt_iret hx hb hr hlocks hP hD hS dX12_node_63 [0] rfl rfl rfl rfl ⟨1, 0, rfl, rfl, (Or.inl ⟨rfl, fun q9 => absurd (okNode_to q9) (by assumption)⟩)⟩
