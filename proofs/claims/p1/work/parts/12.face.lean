set_option maxHeartbeats 4000000 in
set_option maxRecDepth 100000 in
theorem c_X11_end (l : Launch) (G : va_G) (cy : Nat → ClassId) (h0 : Nat) (r1 : Nat) (r2 : Nat) (r4 : Nat) (r6 : Nat) (r7 : Nat) (r9 : Nat) (p0 : Int32) : Kt l G cy yX11_end cX11_end 2 (some .boolean) ({ frames := 10, cells := 0, slots := 0, locals := 200 } : Room) [.ref h0, .int p0] [(h0, .inr (10, [.ref r1, .int 0, .int (-1), .ref r2, .ref r4, .ref r6, .int (-2), .ref r7, .ref r9]))] (fun (v : Option Value) (w1 : va_W) => ∃ (r : Int32), v = some (.int r) ∧ w1 = [] ∧ (r = sp_end p0)) := by
  refine kt_ofW (by decide) (Nat.le_of_ble_eq_true rfl) ?_
  intro p e s m below meth c A ls hx hb hr hU hown hlocks hml hin hP hK hD hA hS hl
  have hown : s.vm.findClass RX11 = some m.cls := hown
  have hl : lv_has ls 2 [(0, .ref h0), (1, .int p0)] := hl
  refine lv_iload_n hx hb dX11_end_0 rfl (lv_at hl 1 rfl) ?_
  refine lv_if_lt (tgt := 12) hx hb dX11_end_1 (by decide) (fun c_1 => ?_) (fun c_1 => ?_)
  · refine lv_iconst (v := 0) hx hb dX11_end_12 (by decide) ?_
    exact kt_zret hx hb hr hlocks hP hD hS (by first | rfl | decide | exact rfl) dX11_end_13 [] rfl rfl rfl rfl ⟨0, rfl, rfl, (by simp [sp_end, c_1])⟩
  · refine lv_iload_n hx hb dX11_end_4 rfl (lv_at hl 1 rfl) ?_
    refine lv_aload_n hx hb dX11_end_5 rfl (lv_at hl 0 rfl) ?_
    refine va_get (D := G) (ci := 10) (v := .int 0) (C := RX11) (T := TX11) (N := 9) hx hb hU in_X11 hown hK.1 hP 0 rfl rfl 1 (by decide) (hU _ u_251) (fun _ h9 => h9) rfl dX11_end_6 ?_
    refine lv_icmp_le (tgt := 14) hx hb dX11_end_9 (by decide) (fun c_2 => ?_) (fun c_2 => ?_)
    · refine lv_aload_n hx hb dX11_end_14 rfl (lv_at hl 0 rfl) ?_
      refine lv_iload_n hx hb dX11_end_15 rfl (lv_at hl 1 rfl) ?_
      refine va_put (D := G) (ci := 10) (v := .int p0) (ty := .int) (C := RX11) (T := TX11) (N := 9) hx hb hU in_X11 tyX11 tyX11_ok nmX11 hown hK.1 hP hD hS 0 rfl rfl 1 (by decide) (hU _ u_251) (fun _ h9 => h9) rfl (by decide +kernel) rfl rfl (Nat.le_of_ble_eq_true rfl) dX11_end_16 (fun H locs hP hD hS => ?_)
      have hP : va_P G vwCl [(h0, .inr (10, [.ref r1, .int p0, .int (-1), .ref r2, .ref r4, .ref r6, .int (-2), .ref r7, .ref r9]))] H := hP
      have hD : va_D A [(h0, .inr (10, [.ref r1, .int p0, .int (-1), .ref r2, .ref r4, .ref r6, .int (-2), .ref r7, .ref r9]))] := hD
      refine lv_iconst (v := 1) hx hb dX11_end_19 (by decide) ?_
      exact kt_zret hx hb hr hlocks hP hD hS (by first | rfl | decide | exact rfl) dX11_end_20 [] rfl rfl rfl rfl ⟨1, rfl, rfl, (by simp [sp_end, c_1, c_2])⟩
    · refine lv_iconst (v := 0) hx hb dX11_end_12 (by decide) ?_
      exact kt_zret hx hb hr hlocks hP hD hS (by first | rfl | decide | exact rfl) dX11_end_13 [] rfl rfl rfl rfl ⟨0, rfl, rfl, (by simp [sp_end, c_1, c_2])⟩
set_option maxHeartbeats 4000000 in
set_option maxRecDepth 100000 in
theorem c_X11_fault (l : Launch) (G : va_G) (cy : Nat → ClassId) (h0 : Nat) (r1 : Nat) (r2 : Nat) (r4 : Nat) (r6 : Nat) (r7 : Nat) (r9 : Nat) : Kt l G cy yX11_fault cX11_fault 1 (some .int) ({ frames := 10, cells := 0, slots := 0, locals := 200 } : Room) [.ref h0] [(h0, .inr (10, [.ref r1, .int 0, .int (-1), .ref r2, .ref r4, .ref r6, .int (-2), .ref r7, .ref r9]))] (fun (v : Option Value) (w1 : va_W) => v = some (.int (-1)) ∧ w1 = []) := by
  refine kt_ofW (by decide) (Nat.le_of_ble_eq_true rfl) ?_
  intro p e s m below meth c A ls hx hb hr hU hown hlocks hml hin hP hK hD hA hS hl
  have hown : s.vm.findClass RX11 = some m.cls := hown
  have hl : lv_has ls 1 [(0, .ref h0)] := hl
  refine lv_aload_n hx hb dX11_fault_0 rfl (lv_at hl 0 rfl) ?_
  refine va_get (D := G) (ci := 10) (v := .int (-1)) (C := RX11) (T := TX11) (N := 9) hx hb hU in_X11 hown hK.1 hP 0 rfl rfl 2 (by decide) (hU _ u_252) (fun _ h9 => h9) rfl dX11_fault_1 ?_
  exact kt_iret hx hb hr hlocks hP hD hS dX11_fault_4 [] rfl rfl rfl rfl ⟨rfl, rfl⟩
set_option maxHeartbeats 4000000 in
set_option maxRecDepth 100000 in
theorem c_X11_existing (l : Launch) (G : va_G) (cy : Nat → ClassId) (sa : Nat → Nat) (hlst : l.stackTraces = false) (h0 : Nat) (r1 : Nat) (r2 : Nat) (r4 : Nat) (r6 : Nat) (r7 : Nat) (r9 : Nat) (r3 : Nat) (p0 : Int32) : Kx l G cy sa yX11_existing cX11_existing 2 (some (.object "PlaneProof$Line")) ({ frames := 10, cells := 1, slots := 6, locals := 200 } : Room) [.ref h0, .int p0] [(h0, .inr (10, [.ref r1, .int 0, .int (-1), .ref r2, .ref r4, .ref r6, .int (-2), .ref r7, .ref r9])), (r2, .inr (0, [.ref r3, .int 0, .int 0]))] (fun _ _ => False) (fun E => E = eIO) := by
  refine kx_ofW (by decide) (Nat.le_of_ble_eq_true rfl) ?_
  intro p e s m below meth c A ls hx hb hr hU hown hlocks hml hin hP hK hD hA hS hl hZ hnt
  have hown : s.vm.findClass RX11 = some m.cls := hown
  have hl : lv_has ls 2 [(0, .ref h0), (1, .int p0)] := hl
  refine lv_iload_n hx hb dX11_existing_0 rfl (lv_at hl 1 rfl) ?_
  refine lv_if_lt (tgt := 15) hx hb dX11_existing_1 (by decide) (fun c_1 => ?_) (fun c_1 => ?_)
  · exact kx_throwW (text := "no such line") hx hb hlst hown (by decide) hU u_1083 u_144 (by decide) at_156 hZ hS (by rw [hml]; exact hl.1) dX11_existing_15 dX11_existing_18 dX11_existing_19 dX11_existing_22 dX11_existing_25 hnt rfl rfl rfl rfl hlocks rfl
  · refine lv_iload_n hx hb dX11_existing_4 rfl (lv_at hl 1 rfl) ?_
    refine lv_aload_n hx hb dX11_existing_5 rfl (lv_at hl 0 rfl) ?_
    refine va_get (D := G) (ci := 10) (v := .ref r2) (C := RX11) (T := TX11) (N := 9) hx hb hU in_X11 hown hK.1 hP 0 rfl rfl 3 (by decide) (hU _ u_253) (fun _ h9 => h9) rfl dX11_existing_6 ?_
    refine va_get (D := G) (ci := 0) (v := .int 0) (C := RX0) (T := TX0) (N := 3) hx hb hU in_X0 hown hK.1 hP 1 rfl rfl 2 (by decide) (hU _ u_181) (fun _ h9 => h9) rfl dX11_existing_9 ?_
    refine lv_icmp_lt (tgt := 26) hx hb dX11_existing_12 (by decide) (fun c9 => absurd c9 c_1) (fun _ => ?_)
    exact kx_throwW (text := "no such line") hx hb hlst hown (by decide) hU u_1083 u_144 (by decide) at_156 hZ hS (by rw [hml]; exact hl.1) dX11_existing_15 dX11_existing_18 dX11_existing_19 dX11_existing_22 dX11_existing_25 hnt rfl rfl rfl rfl hlocks rfl
set_option maxHeartbeats 4000000 in
set_option maxRecDepth 100000 in
theorem c_X11_line (l : Launch) (G : va_G) (cy : Nat → ClassId) (sa : Nat → Nat) (hlst : l.stackTraces = false) (h0 : Nat) (r1 : Nat) (r2 : Nat) (r4 : Nat) (r6 : Nat) (r7 : Nat) (r9 : Nat) (r3 : Nat) (p0 : Int32) (p1 : Int32) : Kx l G cy sa yX11_line cX11_line 4 (some .int) ({ frames := 12, cells := 1, slots := 6, locals := 300 } : Room) [.ref h0, .int p0, .int p1] [(h0, .inr (10, [.ref r1, .int 0, .int (-1), .ref r2, .ref r4, .ref r6, .int (-2), .ref r7, .ref r9])), (r2, .inr (0, [.ref r3, .int 0, .int 0]))] (fun _ _ => False) (fun E => E = eIO) := by
  refine kx_ofW (by decide) (Nat.le_of_ble_eq_true rfl) ?_
  intro p e s m below meth c A ls hx hb hr hU hown hlocks hml hin hP hK hD hA hS hl hZ hnt
  have hown : s.vm.findClass RX11 = some m.cls := hown
  have hl : lv_has ls 4 [(0, .ref h0), (1, .int p0), (2, .int p1)] := hl
  refine lv_aload_n hx hb dX11_line_0 rfl (lv_at hl 0 rfl) ?_
  refine lv_iload_n hx hb dX11_line_1 rfl (lv_at hl 1 rfl) ?_
  refine kx_callV (wc := [(h0, .inr (10, [.ref r1, .int 0, .int (-1), .ref r2, .ref r4, .ref r6, .int (-2), .ref r7, .ref r9])), (r2, .inr (0, [.ref r3, .int 0, .int 0]))]) (wr := []) (As := [.int p0]) (rest := []) (c_X11_existing l G cy sa hlst h0 r1 r2 r4 r6 r7 r9 r3 p0) m_X11_existing u_1079 hx hb hml hown hU hl.1 hK hP hD hS hA dX11_line_2 [0, 1] [] rfl rfl rfl rfl rfl rfl (Nat.le_of_ble_eq_true rfl) (ci := 10) rfl rfl rfl hZ hnt hlocks (fun _ h9 => h9) (fun _ _ _ _ hw _ _ _ => hw.elim)
set_option maxHeartbeats 4000000 in
set_option maxRecDepth 100000 in
theorem c_X11_lits (l : Launch) (G : va_G) (cy : Nat → ClassId) (sa : Nat → Nat) (hlst : l.stackTraces = false) (h0 : Nat) (r1 : Nat) (r2 : Nat) (r4 : Nat) (r6 : Nat) (r7 : Nat) (r9 : Nat) (r3 : Nat) (p0 : Int32) (p1 : Int32) : Kx l G cy sa yX11_lits cX11_lits 4 (some .int) ({ frames := 12, cells := 1, slots := 6, locals := 300 } : Room) [.ref h0, .int p0, .int p1] [(h0, .inr (10, [.ref r1, .int 0, .int (-1), .ref r2, .ref r4, .ref r6, .int (-2), .ref r7, .ref r9])), (r2, .inr (0, [.ref r3, .int 0, .int 0]))] (fun _ _ => False) (fun E => E = eIO) := by
  refine kx_ofW (by decide) (Nat.le_of_ble_eq_true rfl) ?_
  intro p e s m below meth c A ls hx hb hr hU hown hlocks hml hin hP hK hD hA hS hl hZ hnt
  have hown : s.vm.findClass RX11 = some m.cls := hown
  have hl : lv_has ls 4 [(0, .ref h0), (1, .int p0), (2, .int p1)] := hl
  refine lv_aload_n hx hb dX11_lits_0 rfl (lv_at hl 0 rfl) ?_
  refine lv_iload_n hx hb dX11_lits_1 rfl (lv_at hl 1 rfl) ?_
  refine kx_callV (wc := [(h0, .inr (10, [.ref r1, .int 0, .int (-1), .ref r2, .ref r4, .ref r6, .int (-2), .ref r7, .ref r9])), (r2, .inr (0, [.ref r3, .int 0, .int 0]))]) (wr := []) (As := [.int p0]) (rest := []) (c_X11_existing l G cy sa hlst h0 r1 r2 r4 r6 r7 r9 r3 p0) m_X11_existing u_1079 hx hb hml hown hU hl.1 hK hP hD hS hA dX11_lits_2 [0, 1] [] rfl rfl rfl rfl rfl rfl (Nat.le_of_ble_eq_true rfl) (ci := 10) rfl rfl rfl hZ hnt hlocks (fun _ h9 => h9) (fun _ _ _ _ hw _ _ _ => hw.elim)
set_option maxHeartbeats 4000000 in
set_option maxRecDepth 100000 in
theorem c_X11_plane (l : Launch) (G : va_G) (cy : Nat → ClassId) (sa : Nat → Nat) (hlst : l.stackTraces = false) (h0 : Nat) (r1 : Nat) (r2 : Nat) (r4 : Nat) (r6 : Nat) (r7 : Nat) (r9 : Nat) (r3 : Nat) (p0 : Int32) (p1 : Int32) : Kx l G cy sa yX11_plane cX11_plane 4 (some .int) ({ frames := 12, cells := 1, slots := 6, locals := 300 } : Room) [.ref h0, .int p0, .int p1] [(h0, .inr (10, [.ref r1, .int 0, .int (-1), .ref r2, .ref r4, .ref r6, .int (-2), .ref r7, .ref r9])), (r2, .inr (0, [.ref r3, .int 0, .int 0]))] (fun _ _ => False) (fun E => E = eIO) := by
  refine kx_ofW (by decide) (Nat.le_of_ble_eq_true rfl) ?_
  intro p e s m below meth c A ls hx hb hr hU hown hlocks hml hin hP hK hD hA hS hl hZ hnt
  have hown : s.vm.findClass RX11 = some m.cls := hown
  have hl : lv_has ls 4 [(0, .ref h0), (1, .int p0), (2, .int p1)] := hl
  refine lv_aload_n hx hb dX11_plane_0 rfl (lv_at hl 0 rfl) ?_
  refine lv_iload_n hx hb dX11_plane_1 rfl (lv_at hl 1 rfl) ?_
  refine kx_callV (wc := [(h0, .inr (10, [.ref r1, .int 0, .int (-1), .ref r2, .ref r4, .ref r6, .int (-2), .ref r7, .ref r9])), (r2, .inr (0, [.ref r3, .int 0, .int 0]))]) (wr := []) (As := [.int p0]) (rest := []) (c_X11_existing l G cy sa hlst h0 r1 r2 r4 r6 r7 r9 r3 p0) m_X11_existing u_1079 hx hb hml hown hU hl.1 hK hP hD hS hA dX11_plane_2 [0, 1] [] rfl rfl rfl rfl rfl rfl (Nat.le_of_ble_eq_true rfl) (ci := 10) rfl rfl rfl hZ hnt hlocks (fun _ h9 => h9) (fun _ _ _ _ hw _ _ _ => hw.elim)
set_option maxHeartbeats 4000000 in
set_option maxRecDepth 100000 in
theorem c_X11_cut (l : Launch) (G : va_G) (cy : Nat → ClassId) (sa : Nat → Nat) (hlst : l.stackTraces = false) (h0 : Nat) (r1 : Nat) (r2 : Nat) (r4 : Nat) (r6 : Nat) (r7 : Nat) (r9 : Nat) (r3 : Nat) (p0 : Int32) : Kx l G cy sa yX11_cut cX11_cut 3 (some .int) ({ frames := 12, cells := 1, slots := 6, locals := 300 } : Room) [.ref h0, .int p0] [(h0, .inr (10, [.ref r1, .int 0, .int (-1), .ref r2, .ref r4, .ref r6, .int (-2), .ref r7, .ref r9])), (r2, .inr (0, [.ref r3, .int 0, .int 0]))] (fun _ _ => False) (fun E => E = eIO) := by
  refine kx_ofW (by decide) (Nat.le_of_ble_eq_true rfl) ?_
  intro p e s m below meth c A ls hx hb hr hU hown hlocks hml hin hP hK hD hA hS hl hZ hnt
  have hown : s.vm.findClass RX11 = some m.cls := hown
  have hl : lv_has ls 3 [(0, .ref h0), (1, .int p0)] := hl
  refine lv_aload_n hx hb dX11_cut_0 rfl (lv_at hl 0 rfl) ?_
  refine lv_iload_n hx hb dX11_cut_1 rfl (lv_at hl 1 rfl) ?_
  refine kx_callV (wc := [(h0, .inr (10, [.ref r1, .int 0, .int (-1), .ref r2, .ref r4, .ref r6, .int (-2), .ref r7, .ref r9])), (r2, .inr (0, [.ref r3, .int 0, .int 0]))]) (wr := []) (As := [.int p0]) (rest := []) (c_X11_existing l G cy sa hlst h0 r1 r2 r4 r6 r7 r9 r3 p0) m_X11_existing u_1079 hx hb hml hown hU hl.1 hK hP hD hS hA dX11_cut_2 [0, 1] [] rfl rfl rfl rfl rfl rfl (Nat.le_of_ble_eq_true rfl) (ci := 10) rfl rfl rfl hZ hnt hlocks (fun _ h9 => h9) (fun _ _ _ _ hw _ _ _ => hw.elim)
set_option maxHeartbeats 4000000 in
set_option maxRecDepth 100000 in
theorem c_X11_holds (l : Launch) (G : va_G) (cy : Nat → ClassId) (sa : Nat → Nat) (hlst : l.stackTraces = false) (h0 : Nat) (r1 : Nat) (r2 : Nat) (r4 : Nat) (r6 : Nat) (r7 : Nat) (r9 : Nat) (r3 : Nat) (p0 : Int32) (p1 : Int32) : Kx l G cy sa yX11_holds cX11_holds 4 (some .boolean) ({ frames := 12, cells := 1, slots := 6, locals := 300 } : Room) [.ref h0, .int p0, .int p1] [(h0, .inr (10, [.ref r1, .int 0, .int (-1), .ref r2, .ref r4, .ref r6, .int (-2), .ref r7, .ref r9])), (r2, .inr (0, [.ref r3, .int 0, .int 0]))] (fun _ _ => False) (fun E => E = eIO) := by
  refine kx_ofW (by decide) (Nat.le_of_ble_eq_true rfl) ?_
  intro p e s m below meth c A ls hx hb hr hU hown hlocks hml hin hP hK hD hA hS hl hZ hnt
  have hown : s.vm.findClass RX11 = some m.cls := hown
  have hl : lv_has ls 4 [(0, .ref h0), (1, .int p0), (2, .int p1)] := hl
  refine lv_aload_n hx hb dX11_holds_0 rfl (lv_at hl 0 rfl) ?_
  refine lv_iload_n hx hb dX11_holds_1 rfl (lv_at hl 1 rfl) ?_
  refine kx_callV (wc := [(h0, .inr (10, [.ref r1, .int 0, .int (-1), .ref r2, .ref r4, .ref r6, .int (-2), .ref r7, .ref r9])), (r2, .inr (0, [.ref r3, .int 0, .int 0]))]) (wr := []) (As := [.int p0]) (rest := []) (c_X11_existing l G cy sa hlst h0 r1 r2 r4 r6 r7 r9 r3 p0) m_X11_existing u_1079 hx hb hml hown hU hl.1 hK hP hD hS hA dX11_holds_2 [0, 1] [] rfl rfl rfl rfl rfl rfl (Nat.le_of_ble_eq_true rfl) (ci := 10) rfl rfl rfl hZ hnt hlocks (fun _ h9 => h9) (fun _ _ _ _ hw _ _ _ => hw.elim)
set_option maxHeartbeats 4000000 in
set_option maxRecDepth 100000 in
theorem c_X11_often (l : Launch) (G : va_G) (cy : Nat → ClassId) (sa : Nat → Nat) (hlst : l.stackTraces = false) (h0 : Nat) (r1 : Nat) (r2 : Nat) (r4 : Nat) (r6 : Nat) (r7 : Nat) (r9 : Nat) (r3 : Nat) (p0 : Int32) : Kx l G cy sa yX11_often cX11_often 2 (some .int) ({ frames := 12, cells := 1, slots := 6, locals := 300 } : Room) [.ref h0, .int p0] [(h0, .inr (10, [.ref r1, .int 0, .int (-1), .ref r2, .ref r4, .ref r6, .int (-2), .ref r7, .ref r9])), (r2, .inr (0, [.ref r3, .int 0, .int 0]))] (fun _ _ => False) (fun E => E = eIO) := by
  refine kx_ofW (by decide) (Nat.le_of_ble_eq_true rfl) ?_
  intro p e s m below meth c A ls hx hb hr hU hown hlocks hml hin hP hK hD hA hS hl hZ hnt
  have hown : s.vm.findClass RX11 = some m.cls := hown
  have hl : lv_has ls 2 [(0, .ref h0), (1, .int p0)] := hl
  refine lv_aload_n hx hb dX11_often_0 rfl (lv_at hl 0 rfl) ?_
  refine lv_iload_n hx hb dX11_often_1 rfl (lv_at hl 1 rfl) ?_
  refine kx_callV (wc := [(h0, .inr (10, [.ref r1, .int 0, .int (-1), .ref r2, .ref r4, .ref r6, .int (-2), .ref r7, .ref r9])), (r2, .inr (0, [.ref r3, .int 0, .int 0]))]) (wr := []) (As := [.int p0]) (rest := []) (c_X11_existing l G cy sa hlst h0 r1 r2 r4 r6 r7 r9 r3 p0) m_X11_existing u_1079 hx hb hml hown hU hl.1 hK hP hD hS hA dX11_often_2 [0, 1] [] rfl rfl rfl rfl rfl rfl (Nat.le_of_ble_eq_true rfl) (ci := 10) rfl rfl rfl hZ hnt hlocks (fun _ h9 => h9) (fun _ _ _ _ hw _ _ _ => hw.elim)
set_option maxHeartbeats 4000000 in
set_option maxRecDepth 100000 in
theorem c_X11_measure (l : Launch) (G : va_G) (cy : Nat → ClassId) (sa : Nat → Nat) (hlst : l.stackTraces = false) (h0 : Nat) (r1 : Nat) (r2 : Nat) (r4 : Nat) (r6 : Nat) (r7 : Nat) (r9 : Nat) (r3 : Nat) (p0 : Int32) (p1 : Int32) : Kx l G cy sa yX11_measure cX11_measure 4 (some .int) ({ frames := 12, cells := 1, slots := 6, locals := 300 } : Room) [.ref h0, .int p0, .int p1] [(h0, .inr (10, [.ref r1, .int 0, .int (-1), .ref r2, .ref r4, .ref r6, .int (-2), .ref r7, .ref r9])), (r2, .inr (0, [.ref r3, .int 0, .int 0]))] (fun _ _ => False) (fun E => E = eIO) := by
  refine kx_ofW (by decide) (Nat.le_of_ble_eq_true rfl) ?_
  intro p e s m below meth c A ls hx hb hr hU hown hlocks hml hin hP hK hD hA hS hl hZ hnt
  have hown : s.vm.findClass RX11 = some m.cls := hown
  have hl : lv_has ls 4 [(0, .ref h0), (1, .int p0), (2, .int p1)] := hl
  refine lv_aload_n hx hb dX11_measure_0 rfl (lv_at hl 0 rfl) ?_
  refine lv_iload_n hx hb dX11_measure_1 rfl (lv_at hl 1 rfl) ?_
  refine kx_callV (wc := [(h0, .inr (10, [.ref r1, .int 0, .int (-1), .ref r2, .ref r4, .ref r6, .int (-2), .ref r7, .ref r9])), (r2, .inr (0, [.ref r3, .int 0, .int 0]))]) (wr := []) (As := [.int p0]) (rest := []) (c_X11_existing l G cy sa hlst h0 r1 r2 r4 r6 r7 r9 r3 p0) m_X11_existing u_1079 hx hb hml hown hU hl.1 hK hP hD hS hA dX11_measure_2 [0, 1] [] rfl rfl rfl rfl rfl rfl (Nat.le_of_ble_eq_true rfl) (ci := 10) rfl rfl rfl hZ hnt hlocks (fun _ h9 => h9) (fun _ _ _ _ hw _ _ _ => hw.elim)
set_option maxHeartbeats 4000000 in
set_option maxRecDepth 100000 in
theorem c_X11_tree (l : Launch) (G : va_G) (cy : Nat → ClassId) (sa : Nat → Nat) (hlst : l.stackTraces = false) (h0 : Nat) (r1 : Nat) (r2 : Nat) (r4 : Nat) (r6 : Nat) (r7 : Nat) (r9 : Nat) (r3 : Nat) (p0 : Int32) : Kx l G cy sa yX11_tree cX11_tree 2 (some .long) ({ frames := 12, cells := 1, slots := 6, locals := 300 } : Room) [.ref h0, .int p0] [(h0, .inr (10, [.ref r1, .int 0, .int (-1), .ref r2, .ref r4, .ref r6, .int (-2), .ref r7, .ref r9])), (r2, .inr (0, [.ref r3, .int 0, .int 0]))] (fun _ _ => False) (fun E => E = eIO) := by
  refine kx_ofW (by decide) (Nat.le_of_ble_eq_true rfl) ?_
  intro p e s m below meth c A ls hx hb hr hU hown hlocks hml hin hP hK hD hA hS hl hZ hnt
  have hown : s.vm.findClass RX11 = some m.cls := hown
  have hl : lv_has ls 2 [(0, .ref h0), (1, .int p0)] := hl
  refine lv_aload_n hx hb dX11_tree_0 rfl (lv_at hl 0 rfl) ?_
  refine lv_iload_n hx hb dX11_tree_1 rfl (lv_at hl 1 rfl) ?_
  refine kx_callV (wc := [(h0, .inr (10, [.ref r1, .int 0, .int (-1), .ref r2, .ref r4, .ref r6, .int (-2), .ref r7, .ref r9])), (r2, .inr (0, [.ref r3, .int 0, .int 0]))]) (wr := []) (As := [.int p0]) (rest := []) (c_X11_existing l G cy sa hlst h0 r1 r2 r4 r6 r7 r9 r3 p0) m_X11_existing u_1079 hx hb hml hown hU hl.1 hK hP hD hS hA dX11_tree_2 [0, 1] [] rfl rfl rfl rfl rfl rfl (Nat.le_of_ble_eq_true rfl) (ci := 10) rfl rfl rfl hZ hnt hlocks (fun _ h9 => h9) (fun _ _ _ _ hw _ _ _ => hw.elim)
set_option maxHeartbeats 4000000 in
set_option maxRecDepth 100000 in
theorem c_X11_needs (l : Launch) (G : va_G) (cy : Nat → ClassId) (sa : Nat → Nat) (hlst : l.stackTraces = false) (h0 : Nat) (r1 : Nat) (r2 : Nat) (r4 : Nat) (r6 : Nat) (r7 : Nat) (r9 : Nat) (r3 : Nat) (p0 : Int32) (p1 : Int32) : Kx l G cy sa yX11_needs cX11_needs 4 (some .boolean) ({ frames := 12, cells := 1, slots := 6, locals := 300 } : Room) [.ref h0, .int p0, .int p1] [(h0, .inr (10, [.ref r1, .int 0, .int (-1), .ref r2, .ref r4, .ref r6, .int (-2), .ref r7, .ref r9])), (r2, .inr (0, [.ref r3, .int 0, .int 0]))] (fun _ _ => False) (fun E => E = eIO) := by
  refine kx_ofW (by decide) (Nat.le_of_ble_eq_true rfl) ?_
  intro p e s m below meth c A ls hx hb hr hU hown hlocks hml hin hP hK hD hA hS hl hZ hnt
  have hown : s.vm.findClass RX11 = some m.cls := hown
  have hl : lv_has ls 4 [(0, .ref h0), (1, .int p0), (2, .int p1)] := hl
  refine lv_aload_n hx hb dX11_needs_0 rfl (lv_at hl 0 rfl) ?_
  refine lv_iload_n hx hb dX11_needs_1 rfl (lv_at hl 1 rfl) ?_
  refine kx_callV (wc := [(h0, .inr (10, [.ref r1, .int 0, .int (-1), .ref r2, .ref r4, .ref r6, .int (-2), .ref r7, .ref r9])), (r2, .inr (0, [.ref r3, .int 0, .int 0]))]) (wr := []) (As := [.int p0]) (rest := []) (c_X11_existing l G cy sa hlst h0 r1 r2 r4 r6 r7 r9 r3 p0) m_X11_existing u_1079 hx hb hml hown hU hl.1 hK hP hD hS hA dX11_needs_2 [0, 1] [] rfl rfl rfl rfl rfl rfl (Nat.le_of_ble_eq_true rfl) (ci := 10) rfl rfl rfl hZ hnt hlocks (fun _ h9 => h9) (fun _ _ _ _ hw _ _ _ => hw.elim)
set_option maxHeartbeats 4000000 in
set_option maxRecDepth 100000 in
theorem c_X11_uses (l : Launch) (G : va_G) (cy : Nat → ClassId) (sa : Nat → Nat) (hlst : l.stackTraces = false) (h0 : Nat) (r1 : Nat) (r2 : Nat) (r4 : Nat) (r6 : Nat) (r7 : Nat) (r9 : Nat) (r3 : Nat) (p0 : Int32) : Kx l G cy sa yX11_uses cX11_uses 2 (some .int) ({ frames := 12, cells := 1, slots := 6, locals := 300 } : Room) [.ref h0, .int p0] [(h0, .inr (10, [.ref r1, .int 0, .int (-1), .ref r2, .ref r4, .ref r6, .int (-2), .ref r7, .ref r9])), (r2, .inr (0, [.ref r3, .int 0, .int 0]))] (fun _ _ => False) (fun E => E = eIO) := by
  refine kx_ofW (by decide) (Nat.le_of_ble_eq_true rfl) ?_
  intro p e s m below meth c A ls hx hb hr hU hown hlocks hml hin hP hK hD hA hS hl hZ hnt
  have hown : s.vm.findClass RX11 = some m.cls := hown
  have hl : lv_has ls 2 [(0, .ref h0), (1, .int p0)] := hl
  refine lv_aload_n hx hb dX11_uses_0 rfl (lv_at hl 0 rfl) ?_
  refine lv_iload_n hx hb dX11_uses_1 rfl (lv_at hl 1 rfl) ?_
  refine kx_callV (wc := [(h0, .inr (10, [.ref r1, .int 0, .int (-1), .ref r2, .ref r4, .ref r6, .int (-2), .ref r7, .ref r9])), (r2, .inr (0, [.ref r3, .int 0, .int 0]))]) (wr := []) (As := [.int p0]) (rest := []) (c_X11_existing l G cy sa hlst h0 r1 r2 r4 r6 r7 r9 r3 p0) m_X11_existing u_1079 hx hb hml hown hU hl.1 hK hP hD hS hA dX11_uses_2 [0, 1] [] rfl rfl rfl rfl rfl rfl (Nat.le_of_ble_eq_true rfl) (ci := 10) rfl rfl rfl hZ hnt hlocks (fun _ h9 => h9) (fun _ _ _ _ hw _ _ _ => hw.elim)
set_option maxHeartbeats 4000000 in
set_option maxRecDepth 100000 in
theorem c_X11_same (l : Launch) (G : va_G) (cy : Nat → ClassId) (sa : Nat → Nat) (hlst : l.stackTraces = false) (h0 : Nat) (r1 : Nat) (r2 : Nat) (r4 : Nat) (r6 : Nat) (r7 : Nat) (r9 : Nat) (r3 : Nat) (p0 : Int32) : Kx l G cy sa yX11_same cX11_same 4 (some .int) ({ frames := 12, cells := 1, slots := 6, locals := 300 } : Room) [.ref h0, .int p0] [(h0, .inr (10, [.ref r1, .int 0, .int (-1), .ref r2, .ref r4, .ref r6, .int (-2), .ref r7, .ref r9])), (r2, .inr (0, [.ref r3, .int 0, .int 0]))] (fun _ _ => False) (fun E => E = eIO) := by
  refine kx_ofW (by decide) (Nat.le_of_ble_eq_true rfl) ?_
  intro p e s m below meth c A ls hx hb hr hU hown hlocks hml hin hP hK hD hA hS hl hZ hnt
  have hown : s.vm.findClass RX11 = some m.cls := hown
  have hl : lv_has ls 4 [(0, .ref h0), (1, .int p0)] := hl
  refine lv_aload_n hx hb dX11_same_0 rfl (lv_at hl 0 rfl) ?_
  refine lv_iload_n hx hb dX11_same_1 rfl (lv_at hl 1 rfl) ?_
  refine kx_callV (wc := [(h0, .inr (10, [.ref r1, .int 0, .int (-1), .ref r2, .ref r4, .ref r6, .int (-2), .ref r7, .ref r9])), (r2, .inr (0, [.ref r3, .int 0, .int 0]))]) (wr := []) (As := [.int p0]) (rest := []) (c_X11_existing l G cy sa hlst h0 r1 r2 r4 r6 r7 r9 r3 p0) m_X11_existing u_1079 hx hb hml hown hU hl.1 hK hP hD hS hA dX11_same_2 [0, 1] [] rfl rfl rfl rfl rfl rfl (Nat.le_of_ble_eq_true rfl) (ci := 10) rfl rfl rfl hZ hnt hlocks (fun _ h9 => h9) (fun _ _ _ _ hw _ _ _ => hw.elim)
set_option maxHeartbeats 4000000 in
set_option maxRecDepth 100000 in
theorem c_X11_gives (l : Launch) (G : va_G) (cy : Nat → ClassId) (sa : Nat → Nat) (hlst : l.stackTraces = false) (h0 : Nat) (r1 : Nat) (r2 : Nat) (r4 : Nat) (r6 : Nat) (r7 : Nat) (r9 : Nat) (r3 : Nat) (p0 : Int32) (p1 : Int32) : Kx l G cy sa yX11_gives cX11_gives 4 (some .boolean) ({ frames := 12, cells := 1, slots := 6, locals := 300 } : Room) [.ref h0, .int p0, .int p1] [(h0, .inr (10, [.ref r1, .int 0, .int (-1), .ref r2, .ref r4, .ref r6, .int (-2), .ref r7, .ref r9])), (r2, .inr (0, [.ref r3, .int 0, .int 0]))] (fun _ _ => False) (fun E => E = eIO) := by
  refine kx_ofW (by decide) (Nat.le_of_ble_eq_true rfl) ?_
  intro p e s m below meth c A ls hx hb hr hU hown hlocks hml hin hP hK hD hA hS hl hZ hnt
  have hown : s.vm.findClass RX11 = some m.cls := hown
  have hl : lv_has ls 4 [(0, .ref h0), (1, .int p0), (2, .int p1)] := hl
  refine lv_aload_n hx hb dX11_gives_0 rfl (lv_at hl 0 rfl) ?_
  refine lv_iload_n hx hb dX11_gives_1 rfl (lv_at hl 1 rfl) ?_
  refine kx_callV (wc := [(h0, .inr (10, [.ref r1, .int 0, .int (-1), .ref r2, .ref r4, .ref r6, .int (-2), .ref r7, .ref r9])), (r2, .inr (0, [.ref r3, .int 0, .int 0]))]) (wr := []) (As := [.int p0]) (rest := []) (c_X11_existing l G cy sa hlst h0 r1 r2 r4 r6 r7 r9 r3 p0) m_X11_existing u_1079 hx hb hml hown hU hl.1 hK hP hD hS hA dX11_gives_2 [0, 1] [] rfl rfl rfl rfl rfl rfl (Nat.le_of_ble_eq_true rfl) (ci := 10) rfl rfl rfl hZ hnt hlocks (fun _ h9 => h9) (fun _ _ _ _ hw _ _ _ => hw.elim)
set_option maxHeartbeats 4000000 in
set_option maxRecDepth 100000 in
theorem c_X11_trim (l : Launch) (G : va_G) (cy : Nat → ClassId) (sa : Nat → Nat) (hlst : l.stackTraces = false) (h0 : Nat) (r1 : Nat) (r2 : Nat) (r4 : Nat) (r6 : Nat) (r7 : Nat) (r9 : Nat) (r3 : Nat) (p0 : Int32) : Kx l G cy sa yX11_trim cX11_trim 3 (some .int) ({ frames := 12, cells := 1, slots := 6, locals := 300 } : Room) [.ref h0, .int p0] [(h0, .inr (10, [.ref r1, .int 0, .int (-1), .ref r2, .ref r4, .ref r6, .int (-2), .ref r7, .ref r9])), (r2, .inr (0, [.ref r3, .int 0, .int 0]))] (fun _ _ => False) (fun E => E = eIO) := by
  refine kx_ofW (by decide) (Nat.le_of_ble_eq_true rfl) ?_
  intro p e s m below meth c A ls hx hb hr hU hown hlocks hml hin hP hK hD hA hS hl hZ hnt
  have hown : s.vm.findClass RX11 = some m.cls := hown
  have hl : lv_has ls 3 [(0, .ref h0), (1, .int p0)] := hl
  refine lv_aload_n hx hb dX11_trim_0 rfl (lv_at hl 0 rfl) ?_
  refine lv_iload_n hx hb dX11_trim_1 rfl (lv_at hl 1 rfl) ?_
  refine kx_callV (wc := [(h0, .inr (10, [.ref r1, .int 0, .int (-1), .ref r2, .ref r4, .ref r6, .int (-2), .ref r7, .ref r9])), (r2, .inr (0, [.ref r3, .int 0, .int 0]))]) (wr := []) (As := [.int p0]) (rest := []) (c_X11_existing l G cy sa hlst h0 r1 r2 r4 r6 r7 r9 r3 p0) m_X11_existing u_1079 hx hb hml hown hU hl.1 hK hP hD hS hA dX11_trim_2 [0, 1] [] rfl rfl rfl rfl rfl rfl (Nat.le_of_ble_eq_true rfl) (ci := 10) rfl rfl rfl hZ hnt hlocks (fun _ h9 => h9) (fun _ _ _ _ hw _ _ _ => hw.elim)
set_option maxHeartbeats 4000000 in
set_option maxRecDepth 100000 in
theorem c_X11_translate (l : Launch) (G : va_G) (cy : Nat → ClassId) (sa : Nat → Nat) (hlst : l.stackTraces = false) (h0 : Nat) (r1 : Nat) (r2 : Nat) (r4 : Nat) (r6 : Nat) (r7 : Nat) (r9 : Nat) (r3 : Nat) (p0 : Int32) : Kx l G cy sa yX11_translate cX11_translate 3 (some .int) ({ frames := 12, cells := 1, slots := 6, locals := 300 } : Room) [.ref h0, .int p0] [(h0, .inr (10, [.ref r1, .int 0, .int (-1), .ref r2, .ref r4, .ref r6, .int (-2), .ref r7, .ref r9])), (r2, .inr (0, [.ref r3, .int 0, .int 0]))] (fun _ _ => False) (fun E => E = eIO) := by
  refine kx_ofW (by decide) (Nat.le_of_ble_eq_true rfl) ?_
  intro p e s m below meth c A ls hx hb hr hU hown hlocks hml hin hP hK hD hA hS hl hZ hnt
  have hown : s.vm.findClass RX11 = some m.cls := hown
  have hl : lv_has ls 3 [(0, .ref h0), (1, .int p0)] := hl
  refine lv_aload_n hx hb dX11_translate_0 rfl (lv_at hl 0 rfl) ?_
  refine lv_iload_n hx hb dX11_translate_1 rfl (lv_at hl 1 rfl) ?_
  refine kx_callV (wc := [(h0, .inr (10, [.ref r1, .int 0, .int (-1), .ref r2, .ref r4, .ref r6, .int (-2), .ref r7, .ref r9])), (r2, .inr (0, [.ref r3, .int 0, .int 0]))]) (wr := []) (As := [.int p0]) (rest := []) (c_X11_existing l G cy sa hlst h0 r1 r2 r4 r6 r7 r9 r3 p0) m_X11_existing u_1079 hx hb hml hown hU hl.1 hK hP hD hS hA dX11_translate_2 [0, 1] [] rfl rfl rfl rfl rfl rfl (Nat.le_of_ble_eq_true rfl) (ci := 10) rfl rfl rfl hZ hnt hlocks (fun _ h9 => h9) (fun _ _ _ _ hw _ _ _ => hw.elim)
set_option maxHeartbeats 4000000 in
set_option maxRecDepth 100000 in
theorem c_X11_translated (l : Launch) (G : va_G) (cy : Nat → ClassId) (sa : Nat → Nat) (hlst : l.stackTraces = false) (h0 : Nat) (r1 : Nat) (r2 : Nat) (r4 : Nat) (r6 : Nat) (r7 : Nat) (r9 : Nat) (r3 : Nat) (p0 : Int32) : Kx l G cy sa yX11_translated cX11_translated 3 (some .int) ({ frames := 12, cells := 1, slots := 6, locals := 300 } : Room) [.ref h0, .int p0] [(h0, .inr (10, [.ref r1, .int 0, .int (-1), .ref r2, .ref r4, .ref r6, .int (-2), .ref r7, .ref r9])), (r2, .inr (0, [.ref r3, .int 0, .int 0]))] (fun _ _ => False) (fun E => E = eIO) := by
  refine kx_ofW (by decide) (Nat.le_of_ble_eq_true rfl) ?_
  intro p e s m below meth c A ls hx hb hr hU hown hlocks hml hin hP hK hD hA hS hl hZ hnt
  have hown : s.vm.findClass RX11 = some m.cls := hown
  have hl : lv_has ls 3 [(0, .ref h0), (1, .int p0)] := hl
  refine lv_aload_n hx hb dX11_translated_0 rfl (lv_at hl 0 rfl) ?_
  refine lv_iload_n hx hb dX11_translated_1 rfl (lv_at hl 1 rfl) ?_
  refine kx_callV (wc := [(h0, .inr (10, [.ref r1, .int 0, .int (-1), .ref r2, .ref r4, .ref r6, .int (-2), .ref r7, .ref r9])), (r2, .inr (0, [.ref r3, .int 0, .int 0]))]) (wr := []) (As := [.int p0]) (rest := []) (c_X11_existing l G cy sa hlst h0 r1 r2 r4 r6 r7 r9 r3 p0) m_X11_existing u_1079 hx hb hml hown hU hl.1 hK hP hD hS hA dX11_translated_2 [0, 1] [] rfl rfl rfl rfl rfl rfl (Nat.le_of_ble_eq_true rfl) (ci := 10) rfl rfl rfl hZ hnt hlocks (fun _ h9 => h9) (fun _ _ _ _ hw _ _ _ => hw.elim)
set_option maxHeartbeats 4000000 in
set_option maxRecDepth 100000 in
theorem c_X11_slack (l : Launch) (G : va_G) (cy : Nat → ClassId) (sa : Nat → Nat) (hlst : l.stackTraces = false) (h0 : Nat) (r1 : Nat) (r2 : Nat) (r4 : Nat) (r6 : Nat) (r7 : Nat) (r9 : Nat) (r3 : Nat) (p0 : Int32) (p1 : Int32) : Kx l G cy sa yX11_slack cX11_slack 4 (some .int) ({ frames := 12, cells := 1, slots := 6, locals := 300 } : Room) [.ref h0, .int p0, .int p1] [(h0, .inr (10, [.ref r1, .int 0, .int (-1), .ref r2, .ref r4, .ref r6, .int (-2), .ref r7, .ref r9])), (r2, .inr (0, [.ref r3, .int 0, .int 0]))] (fun _ _ => False) (fun E => E = eIO) := by
  refine kx_ofW (by decide) (Nat.le_of_ble_eq_true rfl) ?_
  intro p e s m below meth c A ls hx hb hr hU hown hlocks hml hin hP hK hD hA hS hl hZ hnt
  have hown : s.vm.findClass RX11 = some m.cls := hown
  have hl : lv_has ls 4 [(0, .ref h0), (1, .int p0), (2, .int p1)] := hl
  refine lv_aload_n hx hb dX11_slack_0 rfl (lv_at hl 0 rfl) ?_
  refine lv_iload_n hx hb dX11_slack_1 rfl (lv_at hl 1 rfl) ?_
  refine kx_callV (wc := [(h0, .inr (10, [.ref r1, .int 0, .int (-1), .ref r2, .ref r4, .ref r6, .int (-2), .ref r7, .ref r9])), (r2, .inr (0, [.ref r3, .int 0, .int 0]))]) (wr := []) (As := [.int p0]) (rest := []) (c_X11_existing l G cy sa hlst h0 r1 r2 r4 r6 r7 r9 r3 p0) m_X11_existing u_1079 hx hb hml hown hU hl.1 hK hP hD hS hA dX11_slack_2 [0, 1] [] rfl rfl rfl rfl rfl rfl (Nat.le_of_ble_eq_true rfl) (ci := 10) rfl rfl rfl hZ hnt hlocks (fun _ h9 => h9) (fun _ _ _ _ hw _ _ _ => hw.elim)
set_option maxHeartbeats 4000000 in
set_option maxRecDepth 100000 in
theorem c_X11_rests (l : Launch) (G : va_G) (cy : Nat → ClassId) (sa : Nat → Nat) (hlst : l.stackTraces = false) (h0 : Nat) (r1 : Nat) (r2 : Nat) (r4 : Nat) (r6 : Nat) (r7 : Nat) (r9 : Nat) (r3 : Nat) (p0 : Int32) : Kx l G cy sa yX11_rests cX11_rests 2 (some .int) ({ frames := 12, cells := 1, slots := 6, locals := 300 } : Room) [.ref h0, .int p0] [(h0, .inr (10, [.ref r1, .int 0, .int (-1), .ref r2, .ref r4, .ref r6, .int (-2), .ref r7, .ref r9])), (r2, .inr (0, [.ref r3, .int 0, .int 0]))] (fun _ _ => False) (fun E => E = eIO) := by
  refine kx_ofW (by decide) (Nat.le_of_ble_eq_true rfl) ?_
  intro p e s m below meth c A ls hx hb hr hU hown hlocks hml hin hP hK hD hA hS hl hZ hnt
  have hown : s.vm.findClass RX11 = some m.cls := hown
  have hl : lv_has ls 2 [(0, .ref h0), (1, .int p0)] := hl
  refine lv_aload_n hx hb dX11_rests_0 rfl (lv_at hl 0 rfl) ?_
  refine lv_iload_n hx hb dX11_rests_1 rfl (lv_at hl 1 rfl) ?_
  refine kx_callV (wc := [(h0, .inr (10, [.ref r1, .int 0, .int (-1), .ref r2, .ref r4, .ref r6, .int (-2), .ref r7, .ref r9])), (r2, .inr (0, [.ref r3, .int 0, .int 0]))]) (wr := []) (As := [.int p0]) (rest := []) (c_X11_existing l G cy sa hlst h0 r1 r2 r4 r6 r7 r9 r3 p0) m_X11_existing u_1079 hx hb hml hown hU hl.1 hK hP hD hS hA dX11_rests_2 [0, 1] [] rfl rfl rfl rfl rfl rfl (Nat.le_of_ble_eq_true rfl) (ci := 10) rfl rfl rfl hZ hnt hlocks (fun _ h9 => h9) (fun _ _ _ _ hw _ _ _ => hw.elim)
set_option maxHeartbeats 4000000 in
set_option maxRecDepth 100000 in
theorem c_X11_without (l : Launch) (G : va_G) (cy : Nat → ClassId) (sa : Nat → Nat) (hlst : l.stackTraces = false) (h0 : Nat) (r1 : Nat) (r2 : Nat) (r4 : Nat) (r6 : Nat) (r7 : Nat) (r9 : Nat) (r3 : Nat) (p0 : Int32) : Kx l G cy sa yX11_without cX11_without 2 (some .int) ({ frames := 12, cells := 1, slots := 6, locals := 300 } : Room) [.ref h0, .int p0] [(h0, .inr (10, [.ref r1, .int 0, .int (-1), .ref r2, .ref r4, .ref r6, .int (-2), .ref r7, .ref r9])), (r2, .inr (0, [.ref r3, .int 0, .int 0]))] (fun _ _ => False) (fun E => E = eIO) := by
  refine kx_ofW (by decide) (Nat.le_of_ble_eq_true rfl) ?_
  intro p e s m below meth c A ls hx hb hr hU hown hlocks hml hin hP hK hD hA hS hl hZ hnt
  have hown : s.vm.findClass RX11 = some m.cls := hown
  have hl : lv_has ls 2 [(0, .ref h0), (1, .int p0)] := hl
  refine lv_iload_n hx hb dX11_without_0 rfl (lv_at hl 1 rfl) ?_
  refine lv_if_lt (tgt := 15) hx hb dX11_without_1 (by decide) (fun c_1 => ?_) (fun c_1 => ?_)
  · exact kx_throwW (text := "no such axiom") hx hb hlst hown (by decide) hU u_1083 u_144 (by decide) at_156 hZ hS (by rw [hml]; exact hl.1) dX11_without_15 dX11_without_18 dX11_without_19 dX11_without_22 dX11_without_25 hnt rfl rfl rfl rfl hlocks rfl
  · refine lv_iload_n hx hb dX11_without_4 rfl (lv_at hl 1 rfl) ?_
    refine lv_aload_n hx hb dX11_without_5 rfl (lv_at hl 0 rfl) ?_
    refine va_get (D := G) (ci := 10) (v := .ref r2) (C := RX11) (T := TX11) (N := 9) hx hb hU in_X11 hown hK.1 hP 0 rfl rfl 3 (by decide) (hU _ u_253) (fun _ h9 => h9) rfl dX11_without_6 ?_
    refine va_get (D := G) (ci := 0) (v := .int 0) (C := RX0) (T := TX0) (N := 3) hx hb hU in_X0 hown hK.1 hP 1 rfl rfl 1 (by decide) (hU _ u_178) (fun _ h9 => h9) rfl dX11_without_9 ?_
    refine lv_icmp_lt (tgt := 26) hx hb dX11_without_12 (by decide) (fun c9 => absurd c9 c_1) (fun _ => ?_)
    exact kx_throwW (text := "no such axiom") hx hb hlst hown (by decide) hU u_1083 u_144 (by decide) at_156 hZ hS (by rw [hml]; exact hl.1) dX11_without_15 dX11_without_18 dX11_without_19 dX11_without_22 dX11_without_25 hnt rfl rfl rfl rfl hlocks rfl
set_option maxHeartbeats 4000000 in
set_option maxRecDepth 100000 in
theorem c_X11_refutes (l : Launch) (G : va_G) (cy : Nat → ClassId) (h0 : Nat) (r1 : Nat) (r2 : Nat) (r4 : Nat) (r6 : Nat) (r7 : Nat) (r9 : Nat) (r3 : Nat) : Kt l G cy yX11_refutes cX11_refutes 2 (some .int) ({ frames := 10, cells := 0, slots := 0, locals := 200 } : Room) [.ref h0] [(h0, .inr (10, [.ref r1, .int 0, .int (-1), .ref r2, .ref r4, .ref r6, .int (-2), .ref r7, .ref r9])), (r2, .inr (0, [.ref r3, .int 0, .int 0]))] (fun (v : Option Value) (w1 : va_W) => v = some (.int (-1)) ∧ w1 = []) := by
  refine kt_ofW (by decide) (Nat.le_of_ble_eq_true rfl) ?_
  intro p e s m below meth c A ls hx hb hr hU hown hlocks hml hin hP hK hD hA hS hl
  have hown : s.vm.findClass RX11 = some m.cls := hown
  have hl : lv_has ls 2 [(0, .ref h0)] := hl
  refine lv_iconst (v := 0) hx hb dX11_refutes_0 (by decide) ?_
  refine lv_istore_n (lv' := [(1, .int 0), (0, .ref h0)]) hx hb dX11_refutes_1 rfl hl (by decide) rfl (fun ls hl => ?_)
  refine lv_iload_n hx hb dX11_refutes_2 rfl (lv_at hl 0 rfl) ?_
  refine lv_aload_n hx hb dX11_refutes_3 rfl (lv_at hl 1 rfl) ?_
  refine va_get (D := G) (ci := 10) (v := .ref r2) (C := RX11) (T := TX11) (N := 9) hx hb hU in_X11 hown hK.1 hP 0 rfl rfl 3 (by decide) (hU _ u_253) (fun _ h9 => h9) rfl dX11_refutes_4 ?_
  refine va_get (D := G) (ci := 0) (v := .int 0) (C := RX0) (T := TX0) (N := 3) hx hb hU in_X0 hown hK.1 hP 1 rfl rfl 2 (by decide) (hU _ u_181) (fun _ h9 => h9) rfl dX11_refutes_7 ?_
  refine lv_icmp_ge (tgt := 36) hx hb dX11_refutes_10 (by decide) (fun _ => ?_) (fun c9 => absurd (by decide) c9)
  refine lv_iconst (v := (-1)) hx hb dX11_refutes_36 (by decide) ?_
  exact kt_iret hx hb hr hlocks hP hD hS dX11_refutes_37 [] rfl rfl rfl rfl ⟨rfl, rfl⟩
