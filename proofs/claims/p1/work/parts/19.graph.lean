set_option maxHeartbeats 4000000 in
set_option maxRecDepth 100000 in
theorem c_X4_fewestMoves (l : Launch) (G : va_G) (cy : Nat → ClassId) (r4 : Nat) (r5 : Nat) (p0 : Int32) : Kt l G cy yX4_fewestMoves cX4_fewestMoves 7 (some .int) ({ frames := 10, cells := 0, slots := 0, locals := 200 } : Room) [.ref r4, .int p0] [(r4, .inr (4, [.int 0, .int 0, .int (-1), .ref r5]))] (fun (v : Option Value) (w1 : va_W) => v = some (.int (-1)) ∧ w1 = [(r4, .inr (4, [.int 0, .int 0, .int (-1), .ref r5]))]) := by
  refine kt_ofW (by decide) (Nat.le_of_ble_eq_true rfl) ?_
  intro p e s m below meth c A ls hx hb hr hU hown hlocks hml hin hP hK hD hA hS hl
  have hown : s.vm.findClass RX4 = some m.cls := hown
  have hl : lv_has ls 7 [(0, .ref r4), (1, .int p0)] := hl
  refine lv_aload_n hx hb dX4_fewestMoves_0 rfl (lv_at hl 0 rfl) ?_
  refine va_get (D := G) (ci := 4) (v := .int (-1)) (C := RX4) (T := TX4) (N := 4) hx hb hU in_X4 hown hK.1 hP 0 rfl rfl 2 (by decide) (hU _ u_200) (fun _ h9 => h9) rfl dX4_fewestMoves_1 ?_
  refine lv_iconst (v := (-1)) hx hb dX4_fewestMoves_4 (by decide) ?_
  refine lv_icmp_ne (tgt := 10) hx hb dX4_fewestMoves_5 (by decide) (fun c9 => absurd (by decide) c9) (fun _ => ?_)
  refine lv_iconst (v := (-1)) hx hb dX4_fewestMoves_8 (by decide) ?_
  exact kt_iret hx hb hr hlocks hP hD hS dX4_fewestMoves_9 [0] rfl rfl rfl rfl ⟨rfl, rfl⟩
set_option maxHeartbeats 4000000 in
set_option maxRecDepth 100000 in
theorem c_X11_pebbled (l : Launch) (G : va_G) (cy : Nat → ClassId) (sa : Nat → Nat) (hlst : l.stackTraces = false) (h0 : Nat) (r1 : Nat) (r2 : Nat) (r4 : Nat) (r6 : Nat) (r7 : Nat) (r9 : Nat) (r5 : Nat) (p0 : Int32) : Kx l G cy sa yX11_pebbled cX11_pebbled 2 (some .int) ({ frames := 12, cells := 1, slots := 6, locals := 300 } : Room) [.ref h0, .int p0] [(h0, .inr (10, [.ref r1, .int 0, .int (-1), .ref r2, .ref r4, .ref r6, .int (-2), .ref r7, .ref r9])), (r4, .inr (4, [.int 0, .int 0, .int (-1), .ref r5]))] (fun (v : Option Value) (w1 : va_W) => v = some (.int (-1)) ∧ w1 = [] ∧ (okWidth p0)) (fun E => E = eIA ∧ ¬ okWidth p0) := by
  refine kx_ofW (by decide) (Nat.le_of_ble_eq_true rfl) ?_
  intro p e s m below meth c A ls hx hb hr hU hown hlocks hml hin hP hK hD hA hS hl hZ hnt
  have hown : s.vm.findClass RX11 = some m.cls := hown
  have hl : lv_has ls 2 [(0, .ref h0), (1, .int p0)] := hl
  refine lv_iload_n hx hb dX11_pebbled_0 rfl (lv_at hl 1 rfl) ?_
  refine lv_if_lt (tgt := 10) hx hb dX11_pebbled_1 (by decide) (fun c_1 => ?_) (fun c_1 => ?_)
  · exact kx_throwW (text := "no number of pebbles") hx hb hlst hown (by decide) hU u_977 u_143 (by decide) at_88 hZ hS (by rw [hml]; exact hl.1) dX11_pebbled_10 dX11_pebbled_13 dX11_pebbled_14 dX11_pebbled_17 dX11_pebbled_20 hnt rfl rfl rfl rfl hlocks ⟨rfl, (by simp [okWidth, c_1])⟩
  · refine lv_iload_n hx hb dX11_pebbled_4 rfl (lv_at hl 1 rfl) ?_
    refine lv_bipush (v := 6) hx hb dX11_pebbled_5 (by decide) ?_
    refine lv_icmp_le (tgt := 21) hx hb dX11_pebbled_7 (by decide) (fun c_2 => ?_) (fun c_2 => ?_)
    · refine lv_aload_n hx hb dX11_pebbled_21 rfl (lv_at hl 0 rfl) ?_
      refine va_get (D := G) (ci := 10) (v := .ref r4) (C := RX11) (T := TX11) (N := 9) hx hb hU in_X11 hown hK.1 hP 0 rfl rfl 4 (by decide) (hU _ u_254) (fun _ h9 => h9) rfl dX11_pebbled_22 ?_
      refine lv_iload_n hx hb dX11_pebbled_25 rfl (lv_at hl 1 rfl) ?_
      refine kt_callV (wc := [(r4, .inr (4, [.int 0, .int 0, .int (-1), .ref r5]))]) (wr := [(h0, .inr (10, [.ref r1, .int 0, .int (-1), .ref r2, .ref r4, .ref r6, .int (-2), .ref r7, .ref r9]))]) (As := [.int p0]) (rest := []) (c_X4_fewestMoves l G cy r4 r5 p0) m_X4_fewestMoves u_402 hx hb hml hown hU hl.1 hK hP hD hS hA dX11_pebbled_26 [1] [0] rfl rfl rfl rfl rfl rfl (Nat.le_of_ble_eq_true rfl) (ci := 4) rfl rfl rfl (fun v9 w9 H locs hw hP hD hS => ?_)
      obtain ⟨rfl, rfl⟩ := hw
      have hP : va_P G vwCl [(h0, .inr (10, [.ref r1, .int 0, .int (-1), .ref r2, .ref r4, .ref r6, .int (-2), .ref r7, .ref r9])), (r4, .inr (4, [.int 0, .int 0, .int (-1), .ref r5]))] H := hP
      have hD : va_D A [(h0, .inr (10, [.ref r1, .int 0, .int (-1), .ref r2, .ref r4, .ref r6, .int (-2), .ref r7, .ref r9])), (r4, .inr (4, [.int 0, .int 0, .int (-1), .ref r5]))] := hD
      refine W.eq (g2 := F0 m 29 ls [.int (-1)]) rfl ?_
      refine W.widen (k := 0) (n := 0) (Nat.le_of_ble_eq_true rfl) (Nat.le_of_ble_eq_true rfl) ?_
      exact vx_ret (kt_iret hx hb hr hlocks hP hD hS dX11_pebbled_29 [] rfl rfl rfl rfl ⟨rfl, rfl, (by simp [okWidth, c_1, c_2])⟩)
    · exact kx_throwW (text := "no number of pebbles") hx hb hlst hown (by decide) hU u_977 u_143 (by decide) at_88 hZ hS (by rw [hml]; exact hl.1) dX11_pebbled_10 dX11_pebbled_13 dX11_pebbled_14 dX11_pebbled_17 dX11_pebbled_20 hnt rfl rfl rfl rfl hlocks ⟨rfl, (by simp [okWidth, c_1, c_2])⟩
set_option maxHeartbeats 4000000 in
set_option maxRecDepth 100000 in
theorem c_X11_pebbles (l : Launch) (G : va_G) (cy : Nat → ClassId) (h0 : Nat) (r1 : Nat) (r2 : Nat) (r4 : Nat) (r6 : Nat) (r7 : Nat) (r9 : Nat) (r5 : Nat) : Kt l G cy yX11_pebbles cX11_pebbles 2 (some .int) ({ frames := 12, cells := 0, slots := 0, locals := 300 } : Room) [.ref h0] [(h0, .inr (10, [.ref r1, .int 0, .int (-1), .ref r2, .ref r4, .ref r6, .int (-2), .ref r7, .ref r9])), (r4, .inr (4, [.int 0, .int 0, .int (-1), .ref r5]))] (fun (v : Option Value) (w1 : va_W) => v = some (.int (-1)) ∧ w1 = []) := by
  refine kt_ofW (by decide) (Nat.le_of_ble_eq_true rfl) ?_
  intro p e s m below meth c A ls hx hb hr hU hown hlocks hml hin hP hK hD hA hS hl
  have hown : s.vm.findClass RX11 = some m.cls := hown
  have hl : lv_has ls 2 [(0, .ref h0)] := hl
  refine lv_iconst (v := 0) hx hb dX11_pebbles_0 (by decide) ?_
  refine lv_istore_n (lv' := [(1, .int 0), (0, .ref h0)]) hx hb dX11_pebbles_1 rfl hl (by decide) rfl (fun ls hl => ?_)
  refine lv_iload_n hx hb dX11_pebbles_2 rfl (lv_at hl 0 rfl) ?_
  refine lv_bipush (v := 6) hx hb dX11_pebbles_3 (by decide) ?_
  refine lv_icmp_gt (tgt := 28) hx hb dX11_pebbles_5 (by decide) (fun c9 => absurd c9 (by decide)) (fun _ => ?_)
  refine lv_aload_n hx hb dX11_pebbles_8 rfl (lv_at hl 1 rfl) ?_
  refine va_get (D := G) (ci := 10) (v := .ref r4) (C := RX11) (T := TX11) (N := 9) hx hb hU in_X11 hown hK.1 hP 0 rfl rfl 4 (by decide) (hU _ u_254) (fun _ h9 => h9) rfl dX11_pebbles_9 ?_
  refine lv_iload_n hx hb dX11_pebbles_12 rfl (lv_at hl 0 rfl) ?_
  refine kt_callV (wc := [(r4, .inr (4, [.int 0, .int 0, .int (-1), .ref r5]))]) (wr := [(h0, .inr (10, [.ref r1, .int 0, .int (-1), .ref r2, .ref r4, .ref r6, .int (-2), .ref r7, .ref r9]))]) (As := [.int 0]) (rest := []) (c_X4_fewestMoves l G cy r4 r5 0) m_X4_fewestMoves u_402 hx hb hml hown hU hl.1 hK hP hD hS hA dX11_pebbles_13 [1] [0] rfl rfl rfl rfl rfl rfl (Nat.le_of_ble_eq_true rfl) (ci := 4) rfl rfl rfl (fun v9 w9 H locs hw hP hD hS => ?_)
  obtain ⟨rfl, rfl⟩ := hw
  have hP : va_P G vwCl [(h0, .inr (10, [.ref r1, .int 0, .int (-1), .ref r2, .ref r4, .ref r6, .int (-2), .ref r7, .ref r9])), (r4, .inr (4, [.int 0, .int 0, .int (-1), .ref r5]))] H := hP
  have hD : va_D A [(h0, .inr (10, [.ref r1, .int 0, .int (-1), .ref r2, .ref r4, .ref r6, .int (-2), .ref r7, .ref r9])), (r4, .inr (4, [.int 0, .int 0, .int (-1), .ref r5]))] := hD
  refine W.eq (g2 := F0 m 16 ls [.int (-1)]) rfl ?_
  refine W.widen (k := 0) (n := 0) (Nat.le_of_ble_eq_true rfl) (Nat.le_of_ble_eq_true rfl) ?_
  refine lv_iconst (v := (-1)) hx hb dX11_pebbles_16 (by decide) ?_
  refine lv_icmp_eq (tgt := 22) hx hb dX11_pebbles_17 (by decide) (fun _ => ?_) (fun c9 => absurd (by decide) c9)
  refine lv_iinc (v := 1) (lv' := [(1, .int 1), (0, .ref h0)]) hx hb dX11_pebbles_22 hl (k := 0) rfl (by decide) (by decide) rfl (fun ls hl => ?_)
  refine lv_goto (tgt := 2) hx hb dX11_pebbles_25 (by decide) ?_
  refine lv_iload_n hx hb dX11_pebbles_2 rfl (lv_at hl 0 rfl) ?_
  refine lv_bipush (v := 6) hx hb dX11_pebbles_3 (by decide) ?_
  refine lv_icmp_gt (tgt := 28) hx hb dX11_pebbles_5 (by decide) (fun c9 => absurd c9 (by decide)) (fun _ => ?_)
  refine lv_aload_n hx hb dX11_pebbles_8 rfl (lv_at hl 1 rfl) ?_
  refine va_get (D := G) (ci := 10) (v := .ref r4) (C := RX11) (T := TX11) (N := 9) hx hb hU in_X11 hown hK.1 hP 0 rfl rfl 4 (by decide) (hU _ u_254) (fun _ h9 => h9) rfl dX11_pebbles_9 ?_
  refine lv_iload_n hx hb dX11_pebbles_12 rfl (lv_at hl 0 rfl) ?_
  refine kt_callV (wc := [(r4, .inr (4, [.int 0, .int 0, .int (-1), .ref r5]))]) (wr := [(h0, .inr (10, [.ref r1, .int 0, .int (-1), .ref r2, .ref r4, .ref r6, .int (-2), .ref r7, .ref r9]))]) (As := [.int 1]) (rest := []) (c_X4_fewestMoves l G cy r4 r5 1) m_X4_fewestMoves u_402 hx hb hml hown hU hl.1 hK hP hD hS hA dX11_pebbles_13 [1] [0] rfl rfl rfl rfl rfl rfl (Nat.le_of_ble_eq_true rfl) (ci := 4) rfl rfl rfl (fun v9 w9 H locs hw hP hD hS => ?_)
  obtain ⟨rfl, rfl⟩ := hw
  have hP : va_P G vwCl [(h0, .inr (10, [.ref r1, .int 0, .int (-1), .ref r2, .ref r4, .ref r6, .int (-2), .ref r7, .ref r9])), (r4, .inr (4, [.int 0, .int 0, .int (-1), .ref r5]))] H := hP
  have hD : va_D A [(h0, .inr (10, [.ref r1, .int 0, .int (-1), .ref r2, .ref r4, .ref r6, .int (-2), .ref r7, .ref r9])), (r4, .inr (4, [.int 0, .int 0, .int (-1), .ref r5]))] := hD
  refine W.eq (g2 := F0 m 16 ls [.int (-1)]) rfl ?_
  refine W.widen (k := 0) (n := 0) (Nat.le_of_ble_eq_true rfl) (Nat.le_of_ble_eq_true rfl) ?_
  refine lv_iconst (v := (-1)) hx hb dX11_pebbles_16 (by decide) ?_
  refine lv_icmp_eq (tgt := 22) hx hb dX11_pebbles_17 (by decide) (fun _ => ?_) (fun c9 => absurd (by decide) c9)
  refine lv_iinc (v := 2) (lv' := [(1, .int 2), (0, .ref h0)]) hx hb dX11_pebbles_22 hl (k := 0) rfl (by decide) (by decide) rfl (fun ls hl => ?_)
  refine lv_goto (tgt := 2) hx hb dX11_pebbles_25 (by decide) ?_
  refine lv_iload_n hx hb dX11_pebbles_2 rfl (lv_at hl 0 rfl) ?_
  refine lv_bipush (v := 6) hx hb dX11_pebbles_3 (by decide) ?_
  refine lv_icmp_gt (tgt := 28) hx hb dX11_pebbles_5 (by decide) (fun c9 => absurd c9 (by decide)) (fun _ => ?_)
  refine lv_aload_n hx hb dX11_pebbles_8 rfl (lv_at hl 1 rfl) ?_
  refine va_get (D := G) (ci := 10) (v := .ref r4) (C := RX11) (T := TX11) (N := 9) hx hb hU in_X11 hown hK.1 hP 0 rfl rfl 4 (by decide) (hU _ u_254) (fun _ h9 => h9) rfl dX11_pebbles_9 ?_
  refine lv_iload_n hx hb dX11_pebbles_12 rfl (lv_at hl 0 rfl) ?_
  refine kt_callV (wc := [(r4, .inr (4, [.int 0, .int 0, .int (-1), .ref r5]))]) (wr := [(h0, .inr (10, [.ref r1, .int 0, .int (-1), .ref r2, .ref r4, .ref r6, .int (-2), .ref r7, .ref r9]))]) (As := [.int 2]) (rest := []) (c_X4_fewestMoves l G cy r4 r5 2) m_X4_fewestMoves u_402 hx hb hml hown hU hl.1 hK hP hD hS hA dX11_pebbles_13 [1] [0] rfl rfl rfl rfl rfl rfl (Nat.le_of_ble_eq_true rfl) (ci := 4) rfl rfl rfl (fun v9 w9 H locs hw hP hD hS => ?_)
  obtain ⟨rfl, rfl⟩ := hw
  have hP : va_P G vwCl [(h0, .inr (10, [.ref r1, .int 0, .int (-1), .ref r2, .ref r4, .ref r6, .int (-2), .ref r7, .ref r9])), (r4, .inr (4, [.int 0, .int 0, .int (-1), .ref r5]))] H := hP
  have hD : va_D A [(h0, .inr (10, [.ref r1, .int 0, .int (-1), .ref r2, .ref r4, .ref r6, .int (-2), .ref r7, .ref r9])), (r4, .inr (4, [.int 0, .int 0, .int (-1), .ref r5]))] := hD
  refine W.eq (g2 := F0 m 16 ls [.int (-1)]) rfl ?_
  refine W.widen (k := 0) (n := 0) (Nat.le_of_ble_eq_true rfl) (Nat.le_of_ble_eq_true rfl) ?_
  refine lv_iconst (v := (-1)) hx hb dX11_pebbles_16 (by decide) ?_
  refine lv_icmp_eq (tgt := 22) hx hb dX11_pebbles_17 (by decide) (fun _ => ?_) (fun c9 => absurd (by decide) c9)
  refine lv_iinc (v := 3) (lv' := [(1, .int 3), (0, .ref h0)]) hx hb dX11_pebbles_22 hl (k := 0) rfl (by decide) (by decide) rfl (fun ls hl => ?_)
  refine lv_goto (tgt := 2) hx hb dX11_pebbles_25 (by decide) ?_
  refine lv_iload_n hx hb dX11_pebbles_2 rfl (lv_at hl 0 rfl) ?_
  refine lv_bipush (v := 6) hx hb dX11_pebbles_3 (by decide) ?_
  refine lv_icmp_gt (tgt := 28) hx hb dX11_pebbles_5 (by decide) (fun c9 => absurd c9 (by decide)) (fun _ => ?_)
  refine lv_aload_n hx hb dX11_pebbles_8 rfl (lv_at hl 1 rfl) ?_
  refine va_get (D := G) (ci := 10) (v := .ref r4) (C := RX11) (T := TX11) (N := 9) hx hb hU in_X11 hown hK.1 hP 0 rfl rfl 4 (by decide) (hU _ u_254) (fun _ h9 => h9) rfl dX11_pebbles_9 ?_
  refine lv_iload_n hx hb dX11_pebbles_12 rfl (lv_at hl 0 rfl) ?_
  refine kt_callV (wc := [(r4, .inr (4, [.int 0, .int 0, .int (-1), .ref r5]))]) (wr := [(h0, .inr (10, [.ref r1, .int 0, .int (-1), .ref r2, .ref r4, .ref r6, .int (-2), .ref r7, .ref r9]))]) (As := [.int 3]) (rest := []) (c_X4_fewestMoves l G cy r4 r5 3) m_X4_fewestMoves u_402 hx hb hml hown hU hl.1 hK hP hD hS hA dX11_pebbles_13 [1] [0] rfl rfl rfl rfl rfl rfl (Nat.le_of_ble_eq_true rfl) (ci := 4) rfl rfl rfl (fun v9 w9 H locs hw hP hD hS => ?_)
  obtain ⟨rfl, rfl⟩ := hw
  have hP : va_P G vwCl [(h0, .inr (10, [.ref r1, .int 0, .int (-1), .ref r2, .ref r4, .ref r6, .int (-2), .ref r7, .ref r9])), (r4, .inr (4, [.int 0, .int 0, .int (-1), .ref r5]))] H := hP
  have hD : va_D A [(h0, .inr (10, [.ref r1, .int 0, .int (-1), .ref r2, .ref r4, .ref r6, .int (-2), .ref r7, .ref r9])), (r4, .inr (4, [.int 0, .int 0, .int (-1), .ref r5]))] := hD
  refine W.eq (g2 := F0 m 16 ls [.int (-1)]) rfl ?_
  refine W.widen (k := 0) (n := 0) (Nat.le_of_ble_eq_true rfl) (Nat.le_of_ble_eq_true rfl) ?_
  refine lv_iconst (v := (-1)) hx hb dX11_pebbles_16 (by decide) ?_
  refine lv_icmp_eq (tgt := 22) hx hb dX11_pebbles_17 (by decide) (fun _ => ?_) (fun c9 => absurd (by decide) c9)
  refine lv_iinc (v := 4) (lv' := [(1, .int 4), (0, .ref h0)]) hx hb dX11_pebbles_22 hl (k := 0) rfl (by decide) (by decide) rfl (fun ls hl => ?_)
  refine lv_goto (tgt := 2) hx hb dX11_pebbles_25 (by decide) ?_
  refine lv_iload_n hx hb dX11_pebbles_2 rfl (lv_at hl 0 rfl) ?_
  refine lv_bipush (v := 6) hx hb dX11_pebbles_3 (by decide) ?_
  refine lv_icmp_gt (tgt := 28) hx hb dX11_pebbles_5 (by decide) (fun c9 => absurd c9 (by decide)) (fun _ => ?_)
  refine lv_aload_n hx hb dX11_pebbles_8 rfl (lv_at hl 1 rfl) ?_
  refine va_get (D := G) (ci := 10) (v := .ref r4) (C := RX11) (T := TX11) (N := 9) hx hb hU in_X11 hown hK.1 hP 0 rfl rfl 4 (by decide) (hU _ u_254) (fun _ h9 => h9) rfl dX11_pebbles_9 ?_
  refine lv_iload_n hx hb dX11_pebbles_12 rfl (lv_at hl 0 rfl) ?_
  refine kt_callV (wc := [(r4, .inr (4, [.int 0, .int 0, .int (-1), .ref r5]))]) (wr := [(h0, .inr (10, [.ref r1, .int 0, .int (-1), .ref r2, .ref r4, .ref r6, .int (-2), .ref r7, .ref r9]))]) (As := [.int 4]) (rest := []) (c_X4_fewestMoves l G cy r4 r5 4) m_X4_fewestMoves u_402 hx hb hml hown hU hl.1 hK hP hD hS hA dX11_pebbles_13 [1] [0] rfl rfl rfl rfl rfl rfl (Nat.le_of_ble_eq_true rfl) (ci := 4) rfl rfl rfl (fun v9 w9 H locs hw hP hD hS => ?_)
  obtain ⟨rfl, rfl⟩ := hw
  have hP : va_P G vwCl [(h0, .inr (10, [.ref r1, .int 0, .int (-1), .ref r2, .ref r4, .ref r6, .int (-2), .ref r7, .ref r9])), (r4, .inr (4, [.int 0, .int 0, .int (-1), .ref r5]))] H := hP
  have hD : va_D A [(h0, .inr (10, [.ref r1, .int 0, .int (-1), .ref r2, .ref r4, .ref r6, .int (-2), .ref r7, .ref r9])), (r4, .inr (4, [.int 0, .int 0, .int (-1), .ref r5]))] := hD
  refine W.eq (g2 := F0 m 16 ls [.int (-1)]) rfl ?_
  refine W.widen (k := 0) (n := 0) (Nat.le_of_ble_eq_true rfl) (Nat.le_of_ble_eq_true rfl) ?_
  refine lv_iconst (v := (-1)) hx hb dX11_pebbles_16 (by decide) ?_
  refine lv_icmp_eq (tgt := 22) hx hb dX11_pebbles_17 (by decide) (fun _ => ?_) (fun c9 => absurd (by decide) c9)
  refine lv_iinc (v := 5) (lv' := [(1, .int 5), (0, .ref h0)]) hx hb dX11_pebbles_22 hl (k := 0) rfl (by decide) (by decide) rfl (fun ls hl => ?_)
  refine lv_goto (tgt := 2) hx hb dX11_pebbles_25 (by decide) ?_
  refine lv_iload_n hx hb dX11_pebbles_2 rfl (lv_at hl 0 rfl) ?_
  refine lv_bipush (v := 6) hx hb dX11_pebbles_3 (by decide) ?_
  refine lv_icmp_gt (tgt := 28) hx hb dX11_pebbles_5 (by decide) (fun c9 => absurd c9 (by decide)) (fun _ => ?_)
  refine lv_aload_n hx hb dX11_pebbles_8 rfl (lv_at hl 1 rfl) ?_
  refine va_get (D := G) (ci := 10) (v := .ref r4) (C := RX11) (T := TX11) (N := 9) hx hb hU in_X11 hown hK.1 hP 0 rfl rfl 4 (by decide) (hU _ u_254) (fun _ h9 => h9) rfl dX11_pebbles_9 ?_
  refine lv_iload_n hx hb dX11_pebbles_12 rfl (lv_at hl 0 rfl) ?_
  refine kt_callV (wc := [(r4, .inr (4, [.int 0, .int 0, .int (-1), .ref r5]))]) (wr := [(h0, .inr (10, [.ref r1, .int 0, .int (-1), .ref r2, .ref r4, .ref r6, .int (-2), .ref r7, .ref r9]))]) (As := [.int 5]) (rest := []) (c_X4_fewestMoves l G cy r4 r5 5) m_X4_fewestMoves u_402 hx hb hml hown hU hl.1 hK hP hD hS hA dX11_pebbles_13 [1] [0] rfl rfl rfl rfl rfl rfl (Nat.le_of_ble_eq_true rfl) (ci := 4) rfl rfl rfl (fun v9 w9 H locs hw hP hD hS => ?_)
  obtain ⟨rfl, rfl⟩ := hw
  have hP : va_P G vwCl [(h0, .inr (10, [.ref r1, .int 0, .int (-1), .ref r2, .ref r4, .ref r6, .int (-2), .ref r7, .ref r9])), (r4, .inr (4, [.int 0, .int 0, .int (-1), .ref r5]))] H := hP
  have hD : va_D A [(h0, .inr (10, [.ref r1, .int 0, .int (-1), .ref r2, .ref r4, .ref r6, .int (-2), .ref r7, .ref r9])), (r4, .inr (4, [.int 0, .int 0, .int (-1), .ref r5]))] := hD
  refine W.eq (g2 := F0 m 16 ls [.int (-1)]) rfl ?_
  refine W.widen (k := 0) (n := 0) (Nat.le_of_ble_eq_true rfl) (Nat.le_of_ble_eq_true rfl) ?_
  refine lv_iconst (v := (-1)) hx hb dX11_pebbles_16 (by decide) ?_
  refine lv_icmp_eq (tgt := 22) hx hb dX11_pebbles_17 (by decide) (fun _ => ?_) (fun c9 => absurd (by decide) c9)
  refine lv_iinc (v := 6) (lv' := [(1, .int 6), (0, .ref h0)]) hx hb dX11_pebbles_22 hl (k := 0) rfl (by decide) (by decide) rfl (fun ls hl => ?_)
  refine lv_goto (tgt := 2) hx hb dX11_pebbles_25 (by decide) ?_
  refine lv_iload_n hx hb dX11_pebbles_2 rfl (lv_at hl 0 rfl) ?_
  refine lv_bipush (v := 6) hx hb dX11_pebbles_3 (by decide) ?_
  refine lv_icmp_gt (tgt := 28) hx hb dX11_pebbles_5 (by decide) (fun c9 => absurd c9 (by decide)) (fun _ => ?_)
  refine lv_aload_n hx hb dX11_pebbles_8 rfl (lv_at hl 1 rfl) ?_
  refine va_get (D := G) (ci := 10) (v := .ref r4) (C := RX11) (T := TX11) (N := 9) hx hb hU in_X11 hown hK.1 hP 0 rfl rfl 4 (by decide) (hU _ u_254) (fun _ h9 => h9) rfl dX11_pebbles_9 ?_
  refine lv_iload_n hx hb dX11_pebbles_12 rfl (lv_at hl 0 rfl) ?_
  refine kt_callV (wc := [(r4, .inr (4, [.int 0, .int 0, .int (-1), .ref r5]))]) (wr := [(h0, .inr (10, [.ref r1, .int 0, .int (-1), .ref r2, .ref r4, .ref r6, .int (-2), .ref r7, .ref r9]))]) (As := [.int 6]) (rest := []) (c_X4_fewestMoves l G cy r4 r5 6) m_X4_fewestMoves u_402 hx hb hml hown hU hl.1 hK hP hD hS hA dX11_pebbles_13 [1] [0] rfl rfl rfl rfl rfl rfl (Nat.le_of_ble_eq_true rfl) (ci := 4) rfl rfl rfl (fun v9 w9 H locs hw hP hD hS => ?_)
  obtain ⟨rfl, rfl⟩ := hw
  have hP : va_P G vwCl [(h0, .inr (10, [.ref r1, .int 0, .int (-1), .ref r2, .ref r4, .ref r6, .int (-2), .ref r7, .ref r9])), (r4, .inr (4, [.int 0, .int 0, .int (-1), .ref r5]))] H := hP
  have hD : va_D A [(h0, .inr (10, [.ref r1, .int 0, .int (-1), .ref r2, .ref r4, .ref r6, .int (-2), .ref r7, .ref r9])), (r4, .inr (4, [.int 0, .int 0, .int (-1), .ref r5]))] := hD
  refine W.eq (g2 := F0 m 16 ls [.int (-1)]) rfl ?_
  refine W.widen (k := 0) (n := 0) (Nat.le_of_ble_eq_true rfl) (Nat.le_of_ble_eq_true rfl) ?_
  refine lv_iconst (v := (-1)) hx hb dX11_pebbles_16 (by decide) ?_
  refine lv_icmp_eq (tgt := 22) hx hb dX11_pebbles_17 (by decide) (fun _ => ?_) (fun c9 => absurd (by decide) c9)
  refine lv_iinc (v := 7) (lv' := [(1, .int 7), (0, .ref h0)]) hx hb dX11_pebbles_22 hl (k := 0) rfl (by decide) (by decide) rfl (fun ls hl => ?_)
  refine lv_goto (tgt := 2) hx hb dX11_pebbles_25 (by decide) ?_
  refine lv_iload_n hx hb dX11_pebbles_2 rfl (lv_at hl 0 rfl) ?_
  refine lv_bipush (v := 6) hx hb dX11_pebbles_3 (by decide) ?_
  refine lv_icmp_gt (tgt := 28) hx hb dX11_pebbles_5 (by decide) (fun _ => ?_) (fun c9 => absurd (by decide) c9)
  refine lv_iconst (v := (-1)) hx hb dX11_pebbles_28 (by decide) ?_
  exact kt_iret hx hb hr hlocks hP hD hS dX11_pebbles_29 [] rfl rfl rfl rfl ⟨rfl, rfl⟩
set_option maxHeartbeats 4000000 in
set_option maxRecDepth 100000 in
theorem c_X7_byteAt (l : Launch) (G : va_G) (cy : Nat → ClassId) (r7 : Nat) (r8 : Nat) (p0 : Int32) : Kt l G cy yX7_byteAt cX7_byteAt 2 (some .int) ({ frames := 10, cells := 0, slots := 0, locals := 200 } : Room) [.ref r7, .int p0] [(r7, .inr (7, [.ref r8, .int 0, .int 0]))] (fun (v : Option Value) (w1 : va_W) => v = some (.int (-1)) ∧ w1 = []) := by
  refine kt_ofW (by decide) (Nat.le_of_ble_eq_true rfl) ?_
  intro p e s m below meth c A ls hx hb hr hU hown hlocks hml hin hP hK hD hA hS hl
  have hown : s.vm.findClass RX7 = some m.cls := hown
  have hl : lv_has ls 2 [(0, .ref r7), (1, .int p0)] := hl
  refine lv_iload_n hx hb dX7_byteAt_0 rfl (lv_at hl 1 rfl) ?_
  refine lv_if_lt (tgt := 30) hx hb dX7_byteAt_1 (by decide) (fun c_1 => ?_) (fun c_1 => ?_)
  · refine lv_iconst (v := (-1)) hx hb dX7_byteAt_30 (by decide) ?_
    exact kt_iret hx hb hr hlocks hP hD hS dX7_byteAt_31 [] rfl rfl rfl rfl ⟨rfl, rfl⟩
  · refine lv_iload_n hx hb dX7_byteAt_4 rfl (lv_at hl 1 rfl) ?_
    refine lv_aload_n hx hb dX7_byteAt_5 rfl (lv_at hl 0 rfl) ?_
    refine va_get (D := G) (ci := 7) (v := .int 0) (C := RX7) (T := TX7) (N := 3) hx hb hU in_X7 hown hK.1 hP 0 rfl rfl 1 (by decide) (hU _ u_224) (fun _ h9 => h9) rfl dX7_byteAt_6 ?_
    refine lv_icmp_ge (tgt := 30) hx hb dX7_byteAt_9 (by decide) (fun _ => ?_) (fun c9 => absurd (lx_le c_1) c9)
    refine lv_iconst (v := (-1)) hx hb dX7_byteAt_30 (by decide) ?_
    exact kt_iret hx hb hr hlocks hP hD hS dX7_byteAt_31 [] rfl rfl rfl rfl ⟨rfl, rfl⟩
set_option maxHeartbeats 4000000 in
set_option maxRecDepth 100000 in
theorem c_X11_octet (l : Launch) (G : va_G) (cy : Nat → ClassId) (h0 : Nat) (r1 : Nat) (r2 : Nat) (r4 : Nat) (r6 : Nat) (r7 : Nat) (r9 : Nat) (r8 : Nat) (p0 : Int32) : Kt l G cy yX11_octet cX11_octet 2 (some .int) ({ frames := 12, cells := 0, slots := 0, locals := 300 } : Room) [.ref h0, .int p0] [(h0, .inr (10, [.ref r1, .int 0, .int (-1), .ref r2, .ref r4, .ref r6, .int (-2), .ref r7, .ref r9])), (r7, .inr (7, [.ref r8, .int 0, .int 0]))] (fun (v : Option Value) (w1 : va_W) => v = some (.int (-1)) ∧ w1 = []) := by
  refine kt_ofW (by decide) (Nat.le_of_ble_eq_true rfl) ?_
  intro p e s m below meth c A ls hx hb hr hU hown hlocks hml hin hP hK hD hA hS hl
  have hown : s.vm.findClass RX11 = some m.cls := hown
  have hl : lv_has ls 2 [(0, .ref h0), (1, .int p0)] := hl
  refine lv_aload_n hx hb dX11_octet_0 rfl (lv_at hl 0 rfl) ?_
  refine va_get (D := G) (ci := 10) (v := .ref r7) (C := RX11) (T := TX11) (N := 9) hx hb hU in_X11 hown hK.1 hP 0 rfl rfl 7 (by decide) (hU _ u_257) (fun _ h9 => h9) rfl dX11_octet_1 ?_
  refine lv_iload_n hx hb dX11_octet_4 rfl (lv_at hl 1 rfl) ?_
  refine kt_callV (wc := [(r7, .inr (7, [.ref r8, .int 0, .int 0]))]) (wr := [(h0, .inr (10, [.ref r1, .int 0, .int (-1), .ref r2, .ref r4, .ref r6, .int (-2), .ref r7, .ref r9]))]) (As := [.int p0]) (rest := []) (c_X7_byteAt l G cy r7 r8 p0) m_X7_byteAt u_428 hx hb hml hown hU hl.1 hK hP hD hS hA dX11_octet_5 [1] [0] rfl rfl rfl rfl rfl rfl (Nat.le_of_ble_eq_true rfl) (ci := 7) rfl rfl rfl (fun v9 w9 H locs hw hP hD hS => ?_)
  obtain ⟨rfl, rfl⟩ := hw
  have hP : va_P G vwCl [(h0, .inr (10, [.ref r1, .int 0, .int (-1), .ref r2, .ref r4, .ref r6, .int (-2), .ref r7, .ref r9]))] H := hP
  have hD : va_D A [(h0, .inr (10, [.ref r1, .int 0, .int (-1), .ref r2, .ref r4, .ref r6, .int (-2), .ref r7, .ref r9]))] := hD
  refine W.eq (g2 := F0 m 8 ls [.int (-1)]) rfl ?_
  refine W.widen (k := 0) (n := 0) (Nat.le_of_ble_eq_true rfl) (Nat.le_of_ble_eq_true rfl) ?_
  exact kt_iret hx hb hr hlocks hP hD hS dX11_octet_8 [] rfl rfl rfl rfl ⟨rfl, rfl⟩
