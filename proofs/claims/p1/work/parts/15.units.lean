set_option maxHeartbeats 4000000 in
set_option maxRecDepth 100000 in
theorem c_X11_checkSets (l : Launch) (G : va_G) (cy : Nat → ClassId) (sa : Nat → Nat) (hlst : l.stackTraces = false) (p0 : Int32) (p1 : Int32) : Kx l G cy sa yX11_checkSets cX11_checkSets 2 none ({ frames := 10, cells := 1, slots := 6, locals := 200 } : Room) [.int p0, .int p1] [] (fun (v : Option Value) (w1 : va_W) => v = none ∧ w1 = [] ∧ (okSets p0 p1)) (fun E => E = eIA ∧ ¬ okSets p0 p1) := by
  refine kx_ofW (by decide) (Nat.le_of_ble_eq_true rfl) ?_
  intro p e s m below meth c A ls hx hb hr hU hown hlocks hml hin hP hK hD hA hS hl hZ hnt
  have hown : s.vm.findClass RX11 = some m.cls := hown
  have hl : lv_has ls 2 [(0, .int p0), (1, .int p1)] := hl
  refine lv_iload_n hx hb dX11_checkSets_0 rfl (lv_at hl 0 rfl) ?_
  refine lv_iload_n hx hb dX11_checkSets_1 rfl (lv_at hl 1 rfl) ?_
  refine lv_ior hx hb dX11_checkSets_2 ?_
  refine lv_bipush (v := (-64)) hx hb dX11_checkSets_3 (by decide) ?_
  refine lv_iand hx hb dX11_checkSets_5 ?_
  refine lv_if_ne (tgt := 15) hx hb dX11_checkSets_6 (by decide) (fun c_1 => ?_) (fun c_1 => ?_)
  · exact kx_throwW (text := "no sets, or one in common") hx hb hlst hown (by decide) hU u_977 u_143 (by decide) at_88 hZ hS (by rw [hml]; exact hl.1) dX11_checkSets_15 dX11_checkSets_18 dX11_checkSets_19 dX11_checkSets_22 dX11_checkSets_25 hnt rfl rfl rfl rfl hlocks ⟨rfl, (by simp [okSets, c_1])⟩
  · refine lv_iload_n hx hb dX11_checkSets_9 rfl (lv_at hl 0 rfl) ?_
    refine lv_iload_n hx hb dX11_checkSets_10 rfl (lv_at hl 1 rfl) ?_
    refine lv_iand hx hb dX11_checkSets_11 ?_
    refine lv_if_eq (tgt := 26) hx hb dX11_checkSets_12 (by decide) (fun c_2 => ?_) (fun c_2 => ?_)
    · exact vx_ret (kt_vret hx hb hr hlocks hP hD hS dX11_checkSets_26 [] rfl rfl rfl rfl ⟨rfl, rfl, (by simp [okSets, c_1, c_2])⟩)
    · exact kx_throwW (text := "no sets, or one in common") hx hb hlst hown (by decide) hU u_977 u_143 (by decide) at_88 hZ hS (by rw [hml]; exact hl.1) dX11_checkSets_15 dX11_checkSets_18 dX11_checkSets_19 dX11_checkSets_22 dX11_checkSets_25 hnt rfl rfl rfl rfl hlocks ⟨rfl, (by simp [okSets, c_1, c_2])⟩
set_option maxHeartbeats 4000000 in
set_option maxRecDepth 100000 in
theorem c_X11_checkWidth (l : Launch) (G : va_G) (cy : Nat → ClassId) (sa : Nat → Nat) (hlst : l.stackTraces = false) (p0 : Int32) : Kx l G cy sa yX11_checkWidth cX11_checkWidth 1 none ({ frames := 10, cells := 1, slots := 6, locals := 200 } : Room) [.int p0] [] (fun (v : Option Value) (w1 : va_W) => v = none ∧ w1 = [] ∧ (okWidth p0)) (fun E => E = eIA ∧ ¬ okWidth p0) := by
  refine kx_ofW (by decide) (Nat.le_of_ble_eq_true rfl) ?_
  intro p e s m below meth c A ls hx hb hr hU hown hlocks hml hin hP hK hD hA hS hl hZ hnt
  have hown : s.vm.findClass RX11 = some m.cls := hown
  have hl : lv_has ls 1 [(0, .int p0)] := hl
  refine lv_iload_n hx hb dX11_checkWidth_0 rfl (lv_at hl 0 rfl) ?_
  refine lv_if_lt (tgt := 10) hx hb dX11_checkWidth_1 (by decide) (fun c_1 => ?_) (fun c_1 => ?_)
  · exact kx_throwW (text := "no width") hx hb hlst hown (by decide) hU u_977 u_143 (by decide) at_88 hZ hS (by rw [hml]; exact hl.1) dX11_checkWidth_10 dX11_checkWidth_13 dX11_checkWidth_14 dX11_checkWidth_17 dX11_checkWidth_20 hnt rfl rfl rfl rfl hlocks ⟨rfl, (by simp [okWidth, c_1])⟩
  · refine lv_iload_n hx hb dX11_checkWidth_4 rfl (lv_at hl 0 rfl) ?_
    refine lv_bipush (v := 6) hx hb dX11_checkWidth_5 (by decide) ?_
    refine lv_icmp_le (tgt := 21) hx hb dX11_checkWidth_7 (by decide) (fun c_2 => ?_) (fun c_2 => ?_)
    · exact vx_ret (kt_vret hx hb hr hlocks hP hD hS dX11_checkWidth_21 [] rfl rfl rfl rfl ⟨rfl, rfl, (by simp [okWidth, c_1, c_2])⟩)
    · exact kx_throwW (text := "no width") hx hb hlst hown (by decide) hU u_977 u_143 (by decide) at_88 hZ hS (by rw [hml]; exact hl.1) dX11_checkWidth_10 dX11_checkWidth_13 dX11_checkWidth_14 dX11_checkWidth_17 dX11_checkWidth_20 hnt rfl rfl rfl rfl hlocks ⟨rfl, (by simp [okWidth, c_1, c_2])⟩
set_option maxHeartbeats 4000000 in
set_option maxRecDepth 100000 in
theorem c_X10_init (l : Launch) (G : va_G) (cy : Nat → ClassId) (h0 : Nat) (p0 : Int32) (p1 : Int32) : Kt l G cy yX10_init cX10_init 3 none ({ frames := 10, cells := 0, slots := 0, locals := 200 } : Room) [.ref h0, .int p0, .int p1] [(h0, .inr (9, [.int 0, .int 0, .int 0]))] (fun (v : Option Value) (w1 : va_W) => v = none ∧ w1 = [(h0, .inr (9, [.int p0, .int p1, .int 0]))]) := by
  refine kt_ofW (by decide) (Nat.le_of_ble_eq_true rfl) ?_
  intro p e s m below meth c A ls hx hb hr hU hown hlocks hml hin hP hK hD hA hS hl
  have hown : s.vm.findClass RX10 = some m.cls := hown
  have hl : lv_has ls 3 [(0, .ref h0), (1, .int p0), (2, .int p1)] := hl
  refine lv_aload_n hx hb dX10_init_0 rfl (lv_at hl 0 rfl) ?_
  refine W.objInit hx hb hown (hU _ u_1249) (hU _ u_157) (hU _ u_158) rfl (by rw [hml]; exact hl.1) rfl dX10_init_1 (Nat.le_of_ble_eq_true rfl) (Nat.le_of_ble_eq_true rfl) ?_
  refine W.eq (g2 := F0 m 4 ls []) rfl ?_
  refine lv_aload_n hx hb dX10_init_4 rfl (lv_at hl 0 rfl) ?_
  refine lv_iload_n hx hb dX10_init_5 rfl (lv_at hl 1 rfl) ?_
  refine va_put (D := G) (ci := 9) (v := .int p0) (ty := .int) (C := RX10) (T := TX10) (N := 3) hx hb hU in_X10 tyX10 tyX10_ok nmX10 hown hK.1 hP hD hS 0 rfl rfl 0 (by decide) (hU _ u_1250) (fun _ h9 => h9) rfl (by decide +kernel) rfl rfl (Nat.le_of_ble_eq_true rfl) dX10_init_6 (fun H locs hP hD hS => ?_)
  have hP : va_P G vwCl [(h0, .inr (9, [.int p0, .int 0, .int 0]))] H := hP
  have hD : va_D A [(h0, .inr (9, [.int p0, .int 0, .int 0]))] := hD
  refine lv_aload_n hx hb dX10_init_9 rfl (lv_at hl 0 rfl) ?_
  refine lv_iload_n hx hb dX10_init_10 rfl (lv_at hl 2 rfl) ?_
  refine va_put (D := G) (ci := 9) (v := .int p1) (ty := .int) (C := RX10) (T := TX10) (N := 3) hx hb hU in_X10 tyX10 tyX10_ok nmX10 hown hK.1 hP hD hS 0 rfl rfl 1 (by decide) (hU _ u_1252) (fun _ h9 => h9) rfl (by decide +kernel) rfl rfl (Nat.le_of_ble_eq_true rfl) dX10_init_11 (fun H locs hP hD hS => ?_)
  have hP : va_P G vwCl [(h0, .inr (9, [.int p0, .int p1, .int 0]))] H := hP
  have hD : va_D A [(h0, .inr (9, [.int p0, .int p1, .int 0]))] := hD
  exact kt_vret hx hb hr hlocks hP hD hS dX10_init_14 [0] rfl rfl rfl rfl ⟨rfl, rfl⟩
set_option maxHeartbeats 4000000 in
set_option maxRecDepth 100000 in
theorem c_X10_spread (l : Launch) (G : va_G) (cy : Nat → ClassId) (h0 : Nat) (p0 : Int32) (p1 : Int32) (r2 : Nat) (r3 : Nat) : Kt l G cy yX10_spread cX10_spread 5 none ({ frames := 10, cells := 0, slots := 0, locals := 200 } : Room) [.ref h0, .ref r2] [(h0, .inr (9, [.int p0, .int p1, .int 0])), (r2, .inr (0, [.ref r3, .int 0, .int 0]))] (fun (v : Option Value) (w1 : va_W) => v = none ∧ w1 = [(h0, .inr (9, [.int p0, .int p1, .int 0])), (r2, .inr (0, [.ref r3, .int 0, .int 0]))]) := by
  refine kt_ofW (by decide) (Nat.le_of_ble_eq_true rfl) ?_
  intro p e s m below meth c A ls hx hb hr hU hown hlocks hml hin hP hK hD hA hS hl
  have hown : s.vm.findClass RX10 = some m.cls := hown
  have hl : lv_has ls 5 [(0, .ref h0), (1, .ref r2)] := hl
  refine lv_iconst (v := 0) hx hb dX10_spread_0 (by decide) ?_
  refine lv_istore_n (lv' := [(2, .int 0), (0, .ref h0), (1, .ref r2)]) hx hb dX10_spread_1 rfl hl (by decide) rfl (fun ls hl => ?_)
  refine lv_iload_n hx hb dX10_spread_2 rfl (lv_at hl 0 rfl) ?_
  refine lv_bipush (v := 6) hx hb dX10_spread_3 (by decide) ?_
  refine lv_icmp_gt (tgt := 81) hx hb dX10_spread_5 (by decide) (fun c9 => absurd c9 (by decide)) (fun _ => ?_)
  refine lv_aload_n hx hb dX10_spread_8 rfl (lv_at hl 1 rfl) ?_
  refine va_get (D := G) (ci := 9) (v := .int p0) (C := RX10) (T := TX10) (N := 3) hx hb hU in_X10 hown hK.1 hP 0 rfl rfl 0 (by decide) (hU _ u_1250) (fun _ h9 => h9) rfl dX10_spread_9 ?_
  refine lv_aload_n hx hb dX10_spread_12 rfl (lv_at hl 1 rfl) ?_
  refine va_get (D := G) (ci := 9) (v := .int p1) (C := RX10) (T := TX10) (N := 3) hx hb hU in_X10 hown hK.1 hP 0 rfl rfl 1 (by decide) (hU _ u_1252) (fun _ h9 => h9) rfl dX10_spread_13 ?_
  refine lv_ior hx hb dX10_spread_16 ?_
  refine lv_istore_n (lv' := [(3, .int (p0 ||| p1)), (2, .int 0), (0, .ref h0), (1, .ref r2)]) hx hb dX10_spread_17 rfl hl (by decide) rfl (fun ls hl => ?_)
  refine lv_iconst (v := 0) hx hb dX10_spread_18 (by decide) ?_
  refine lv_istore (lv' := [(4, .int 0), (3, .int (p0 ||| p1)), (2, .int 0), (0, .ref h0), (1, .ref r2)]) hx hb dX10_spread_19 hl (by decide) rfl (fun ls hl => ?_)
  refine lv_iload hx hb dX10_spread_21 (lv_at hl 0 rfl) ?_
  refine lv_aload_n hx hb dX10_spread_23 rfl (lv_at hl 4 rfl) ?_
  refine va_get (D := G) (ci := 0) (v := .int 0) (C := RX0) (T := TX0) (N := 3) hx hb hU in_X0 hown hK.1 hP 1 rfl rfl 1 (by decide) (hU _ u_176) (fun _ h9 => h9) rfl dX10_spread_24 ?_
  refine lv_icmp_ge (tgt := 54) hx hb dX10_spread_27 (by decide) (fun _ => ?_) (fun c9 => absurd (by decide) c9)
  refine lv_aload_n hx hb dX10_spread_54 rfl (lv_at hl 3 rfl) ?_
  refine va_get (D := G) (ci := 9) (v := .int 0) (C := RX10) (T := TX10) (N := 3) hx hb hU in_X10 hown hK.1 hP 0 rfl rfl 2 (by decide) (hU _ u_1254) (fun _ h9 => h9) rfl dX10_spread_55 ?_
  refine lv_if_ne (tgt := 74) hx hb dX10_spread_58 (by decide) (fun c9 => absurd (by decide) c9) (fun _ => ?_)
  refine lv_aload_n hx hb dX10_spread_61 rfl (lv_at hl 3 rfl) ?_
  refine va_get (D := G) (ci := 9) (v := .int p0) (C := RX10) (T := TX10) (N := 3) hx hb hU in_X10 hown hK.1 hP 0 rfl rfl 0 (by decide) (hU _ u_1250) (fun _ h9 => h9) rfl dX10_spread_62 ?_
  refine lv_aload_n hx hb dX10_spread_65 rfl (lv_at hl 3 rfl) ?_
  refine va_get (D := G) (ci := 9) (v := .int p1) (C := RX10) (T := TX10) (N := 3) hx hb hU in_X10 hown hK.1 hP 0 rfl rfl 1 (by decide) (hU _ u_1252) (fun _ h9 => h9) rfl dX10_spread_66 ?_
  refine lv_ior hx hb dX10_spread_69 ?_
  refine lv_iload_n hx hb dX10_spread_70 rfl (lv_at hl 1 rfl) ?_
  refine lv_icmp_ne (tgt := 75) hx hb dX10_spread_71 (by decide) (fun c9 => absurd rfl c9) (fun _ => ?_)
  exact kt_vret hx hb hr hlocks hP hD hS dX10_spread_74 [0, 1] rfl rfl rfl rfl ⟨rfl, rfl⟩
set_option maxHeartbeats 4000000 in
set_option maxRecDepth 100000 in
theorem c_X11_units (l : Launch) (G : va_G) (cy : Nat → ClassId) (sa : Nat → Nat) (hlst : l.stackTraces = false) (h0 : Nat) (r1 : Nat) (r2 : Nat) (r4 : Nat) (r6 : Nat) (r7 : Nat) (r9 : Nat) (r3 : Nat) (p0 : Int32) (p1 : Int32) (p2 : Int32) : Kx l G cy sa yX11_units cX11_units 5 (some .int) ({ frames := 12, cells := 2, slots := 12, locals := 300 } : Room) [.ref h0, .int p0, .int p1, .int p2] [(h0, .inr (10, [.ref r1, .int 0, .int (-1), .ref r2, .ref r4, .ref r6, .int (-2), .ref r7, .ref r9])), (r2, .inr (0, [.ref r3, .int 0, .int 0]))] (fun (v : Option Value) (w1 : va_W) => ∃ (r : Int32), v = some (.int r) ∧ w1 = [] ∧ (okSets p0 p1 ∧ okWhat p2 ∧ r = sp_units p0 p1 p2)) (fun E => (E = eIA ∧ ¬ okSets p0 p1) ∨ (E = eNS ∧ okSets p0 p1 ∧ ¬ okWhat p2)) := by
  refine kx_ofW (by decide) (Nat.le_of_ble_eq_true rfl) ?_
  intro p e s m below meth c A ls hx hb hr hU hown hlocks hml hin hP hK hD hA hS hl hZ hnt
  have hown : s.vm.findClass RX11 = some m.cls := hown
  have hl : lv_has ls 5 [(0, .ref h0), (1, .int p0), (2, .int p1), (3, .int p2)] := hl
  refine lv_iload_n hx hb dX11_units_0 rfl (lv_at hl 1 rfl) ?_
  refine lv_iload_n hx hb dX11_units_1 rfl (lv_at hl 2 rfl) ?_
  refine kx_callS (wc := []) (wr := [(h0, .inr (10, [.ref r1, .int 0, .int (-1), .ref r2, .ref r4, .ref r6, .int (-2), .ref r7, .ref r9])), (r2, .inr (0, [.ref r3, .int 0, .int 0]))]) (As := [.int p0, .int p1]) (rest := []) (c_X11_checkSets l G cy sa hlst p0 p1) m_X11_checkSets u_1240 hx hb hml hown hU hl.1 hK hP hD hS hA dX11_units_2 [] [0, 1] rfl rfl rfl rfl rfl rfl (Nat.le_of_ble_eq_true rfl) hZ hnt hlocks (fun _ h9 => Or.inl h9) (fun v9 w9 H locs hw hP hD hS => ?_)
  obtain ⟨rfl, rfl, hp_1⟩ := hw
  have hP : va_P G vwCl [(h0, .inr (10, [.ref r1, .int 0, .int (-1), .ref r2, .ref r4, .ref r6, .int (-2), .ref r7, .ref r9])), (r2, .inr (0, [.ref r3, .int 0, .int 0]))] H := hP
  have hD : va_D A [(h0, .inr (10, [.ref r1, .int 0, .int (-1), .ref r2, .ref r4, .ref r6, .int (-2), .ref r7, .ref r9])), (r2, .inr (0, [.ref r3, .int 0, .int 0]))] := hD
  refine W.eq (g2 := F0 m 5 ls []) rfl ?_
  refine W.widen (k := 1) (n := 6) (Nat.le_of_ble_eq_true rfl) (Nat.le_of_ble_eq_true rfl) ?_
  refine lv_iload_n hx hb dX11_units_5 rfl (lv_at hl 3 rfl) ?_
  refine lv_if_lt (tgt := 14) hx hb dX11_units_6 (by decide) (fun c_2 => ?_) (fun c_2 => ?_)
  · exact kx_throwN (text := "another what") hx hb hlst hown hU u_1099 u_145 (by decide) at_145 hZ hS (by rw [hml]; exact hl.1) dX11_units_14 dX11_units_17 dX11_units_18 dX11_units_20 dX11_units_23 hnt rfl rfl rfl rfl hlocks (Or.inr ⟨rfl, by assumption, (by simp [okWhat, c_2])⟩)
  · refine lv_iload_n hx hb dX11_units_9 rfl (lv_at hl 3 rfl) ?_
    refine lv_iconst (v := 2) hx hb dX11_units_10 (by decide) ?_
    refine lv_icmp_le (tgt := 24) hx hb dX11_units_11 (by decide) (fun c_3 => ?_) (fun c_3 => ?_)
    · refine va_new (ci := 9) (fs := [.int 0, .int 0, .int 0]) (C := RX10) (T := TX10) (N := 3) hx hb hU in_X10 tyX10 tyX10_ok hown (hU _ u_1244) (hU _ u_1245) (hU _ u_147) hK.1 hP hD hS hA rfl df_X10 (Nat.le_of_ble_eq_true rfl) (Nat.le_of_ble_eq_true rfl) dX11_units_24 (fun q_4 H hP hD hS => ?_)
      have hP : va_P G vwCl [(h0, .inr (10, [.ref r1, .int 0, .int (-1), .ref r2, .ref r4, .ref r6, .int (-2), .ref r7, .ref r9])), (r2, .inr (0, [.ref r3, .int 0, .int 0])), (q_4, .inr (9, [.int 0, .int 0, .int 0]))] H := hP
      have hD : va_D A [(h0, .inr (10, [.ref r1, .int 0, .int (-1), .ref r2, .ref r4, .ref r6, .int (-2), .ref r7, .ref r9])), (r2, .inr (0, [.ref r3, .int 0, .int 0])), (q_4, .inr (9, [.int 0, .int 0, .int 0]))] := hD
      refine W.widen (k := 2) (n := 9) (Nat.le_of_ble_eq_true rfl) (Nat.le_of_ble_eq_true rfl) ?_
      refine lv_dup hx hb dX11_units_27 rfl ?_
      refine lv_iload_n hx hb dX11_units_28 rfl (lv_at hl 1 rfl) ?_
      refine lv_iload_n hx hb dX11_units_29 rfl (lv_at hl 2 rfl) ?_
      refine kt_callI (wc := [(q_4, .inr (9, [.int 0, .int 0, .int 0]))]) (wr := [(h0, .inr (10, [.ref r1, .int 0, .int (-1), .ref r2, .ref r4, .ref r6, .int (-2), .ref r7, .ref r9])), (r2, .inr (0, [.ref r3, .int 0, .int 0]))]) (As := [.int p0, .int p1]) (rest := [.ref q_4]) (c_X10_init l G cy q_4 p0 p1) m_X10_init u_1246 hx hb hml hown hU hl.1 hK hP hD hS hA dX11_units_30 [2] [0, 1] rfl rfl rfl rfl rfl rfl (Nat.le_of_ble_eq_true rfl) (fun v9 w9 H locs hw hP hD hS => ?_)
      obtain ⟨rfl, rfl⟩ := hw
      have hP : va_P G vwCl [(h0, .inr (10, [.ref r1, .int 0, .int (-1), .ref r2, .ref r4, .ref r6, .int (-2), .ref r7, .ref r9])), (r2, .inr (0, [.ref r3, .int 0, .int 0])), (q_4, .inr (9, [.int p0, .int p1, .int 0]))] H := hP
      have hD : va_D A [(h0, .inr (10, [.ref r1, .int 0, .int (-1), .ref r2, .ref r4, .ref r6, .int (-2), .ref r7, .ref r9])), (r2, .inr (0, [.ref r3, .int 0, .int 0])), (q_4, .inr (9, [.int p0, .int p1, .int 0]))] := hD
      refine W.eq (g2 := F0 m 33 ls [.ref q_4]) rfl ?_
      refine W.widen (k := 2) (n := 9) (Nat.le_of_ble_eq_true rfl) (Nat.le_of_ble_eq_true rfl) ?_
      refine lv_astore (lv' := [(4, .ref q_4), (0, .ref h0), (1, .int p0), (2, .int p1), (3, .int p2)]) hx hb dX11_units_33 hl (by decide) rfl (fun ls hl => ?_)
      refine lv_aload hx hb dX11_units_35 (lv_at hl 0 rfl) ?_
      refine lv_aload_n hx hb dX11_units_37 rfl (lv_at hl 1 rfl) ?_
      refine va_get (D := G) (ci := 10) (v := .ref r2) (C := RX11) (T := TX11) (N := 9) hx hb hU in_X11 hown hK.1 hP 0 rfl rfl 3 (by decide) (hU _ u_253) (fun _ h9 => h9) rfl dX11_units_38 ?_
      refine kt_callV (wc := [(q_4, .inr (9, [.int p0, .int p1, .int 0])), (r2, .inr (0, [.ref r3, .int 0, .int 0]))]) (wr := [(h0, .inr (10, [.ref r1, .int 0, .int (-1), .ref r2, .ref r4, .ref r6, .int (-2), .ref r7, .ref r9]))]) (As := [.ref r2]) (rest := []) (c_X10_spread l G cy q_4 p0 p1 r2 r3) m_X10_spread u_1263 hx hb hml hown hU hl.1 hK hP hD hS hA dX11_units_41 [2, 1] [0] rfl rfl rfl rfl rfl rfl (Nat.le_of_ble_eq_true rfl) (ci := 9) rfl rfl rfl (fun v9 w9 H locs hw hP hD hS => ?_)
      obtain ⟨rfl, rfl⟩ := hw
      have hP : va_P G vwCl [(h0, .inr (10, [.ref r1, .int 0, .int (-1), .ref r2, .ref r4, .ref r6, .int (-2), .ref r7, .ref r9])), (q_4, .inr (9, [.int p0, .int p1, .int 0])), (r2, .inr (0, [.ref r3, .int 0, .int 0]))] H := hP
      have hD : va_D A [(h0, .inr (10, [.ref r1, .int 0, .int (-1), .ref r2, .ref r4, .ref r6, .int (-2), .ref r7, .ref r9])), (q_4, .inr (9, [.int p0, .int p1, .int 0])), (r2, .inr (0, [.ref r3, .int 0, .int 0]))] := hD
      refine W.eq (g2 := F0 m 44 ls []) rfl ?_
      refine W.widen (k := 2) (n := 9) (Nat.le_of_ble_eq_true rfl) (Nat.le_of_ble_eq_true rfl) ?_
      refine lv_iload_n hx hb dX11_units_44 rfl (lv_at hl 4 rfl) ?_
      by_cases c_5 : p2 = 0
      · refine lv_lookup (off := 27) (tgt := 72) hx hb dX11_units_45 (by decide) (by rw [c_5]; decide) (by decide) ?_
        refine lv_aload hx hb dX11_units_72 (lv_at hl 0 rfl) ?_
        refine va_get (D := G) (ci := 9) (v := .int p0) (C := RX10) (T := TX10) (N := 3) hx hb hU in_X10 hown hK.1 hP 1 rfl rfl 0 (by decide) (hU _ u_1251) (fun _ h9 => h9) rfl dX11_units_74 ?_
        exact vx_ret (kt_iret hx hb hr hlocks hP hD hS dX11_units_77 [] rfl rfl rfl rfl ⟨p0, rfl, rfl, ⟨by assumption, (by simp [okWhat, c_2, c_3, c_5]), (by simp [sp_units, c_2, c_3, c_5])⟩⟩)
      by_cases c_6 : p2 = 1
      · refine lv_lookup (off := 33) (tgt := 78) hx hb dX11_units_45 (by decide) (by rw [c_6]; decide) (by decide) ?_
        refine lv_aload hx hb dX11_units_78 (lv_at hl 0 rfl) ?_
        refine va_get (D := G) (ci := 9) (v := .int p1) (C := RX10) (T := TX10) (N := 3) hx hb hU in_X10 hown hK.1 hP 1 rfl rfl 1 (by decide) (hU _ u_1253) (fun _ h9 => h9) rfl dX11_units_80 ?_
        exact vx_ret (kt_iret hx hb hr hlocks hP hD hS dX11_units_83 [] rfl rfl rfl rfl ⟨p1, rfl, rfl, ⟨by assumption, (by simp [okWhat, c_2, c_3, c_5, c_6]), (by simp [sp_units, c_2, c_3, c_5, c_6])⟩⟩)
      refine lv_lookup (off := 39) (tgt := 84) hx hb dX11_units_45 (by decide) ((lv_osw (k := 0) (a := 0) (o := 27) (d := 39) (r := [(1, 33)]) c_5 rfl).trans ((lv_osw (k := 1) (a := 1) (o := 33) (d := 39) (r := []) c_6 rfl).trans (rfl))) (by decide) ?_
      refine lv_aload hx hb dX11_units_84 (lv_at hl 0 rfl) ?_
      refine va_get (D := G) (ci := 9) (v := .int 0) (C := RX10) (T := TX10) (N := 3) hx hb hU in_X10 hown hK.1 hP 1 rfl rfl 2 (by decide) (hU _ u_1255) (fun _ h9 => h9) rfl dX11_units_86 ?_
      refine lv_if_eq (tgt := 96) hx hb dX11_units_89 (by decide) (fun _ => ?_) (fun c9 => absurd (by decide) c9)
      refine lv_iconst (v := 0) hx hb dX11_units_96 (by decide) ?_
      exact vx_ret (kt_iret hx hb hr hlocks hP hD hS dX11_units_97 [] rfl rfl rfl rfl ⟨0, rfl, rfl, ⟨by assumption, (by simp [okWhat, c_2, c_3, c_5, c_6]), (by simp [sp_units, c_2, c_3, c_5, c_6])⟩⟩)
    · exact kx_throwN (text := "another what") hx hb hlst hown hU u_1099 u_145 (by decide) at_145 hZ hS (by rw [hml]; exact hl.1) dX11_units_14 dX11_units_17 dX11_units_18 dX11_units_20 dX11_units_23 hnt rfl rfl rfl rfl hlocks (Or.inr ⟨rfl, by assumption, (by simp [okWhat, c_2, c_3])⟩)
