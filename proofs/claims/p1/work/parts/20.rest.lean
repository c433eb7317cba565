set_option maxHeartbeats 4000000 in
set_option maxRecDepth 100000 in
theorem c_X11_core (l : Launch) (G : va_G) (cy : Nat → ClassId) (h0 : Nat) (r1 : Nat) (r2 : Nat) (r4 : Nat) (r6 : Nat) (r7 : Nat) (r9 : Nat) (r3 : Nat) (p0 : Int32) : Kt l G cy yX11_core cX11_core 2 (some .int) ({ frames := 14, cells := 0, slots := 0, locals := 400 } : Room) [.ref h0, .int p0] [(h0, .inr (10, [.ref r1, .int 0, .int (-1), .ref r2, .ref r4, .ref r6, .int (-2), .ref r7, .ref r9])), (r2, .inr (0, [.ref r3, .int 0, .int 0]))] (fun (v : Option Value) (w1 : va_W) => v = some (.int (-1)) ∧ w1 = []) := by
  refine kt_ofW (by decide) (Nat.le_of_ble_eq_true rfl) ?_
  intro p e s m below meth c A ls hx hb hr hU hown hlocks hml hin hP hK hD hA hS hl
  have hown : s.vm.findClass RX11 = some m.cls := hown
  have hl : lv_has ls 2 [(0, .ref h0), (1, .int p0)] := hl
  refine lv_aload_n hx hb dX11_core_0 rfl (lv_at hl 0 rfl) ?_
  refine va_get (D := G) (ci := 10) (v := .int (-2)) (C := RX11) (T := TX11) (N := 9) hx hb hU in_X11 hown hK.1 hP 0 rfl rfl 6 (by decide) (hU _ u_256) (fun _ h9 => h9) rfl dX11_core_1 ?_
  refine lv_bipush (v := (-2)) hx hb dX11_core_4 (by decide) ?_
  refine lv_icmp_ne (tgt := 20) hx hb dX11_core_6 (by decide) (fun c9 => absurd (by decide) c9) (fun _ => ?_)
  refine lv_aload_n hx hb dX11_core_9 rfl (lv_at hl 0 rfl) ?_
  refine lv_aload_n hx hb dX11_core_10 rfl (lv_at hl 0 rfl) ?_
  refine va_get (D := G) (ci := 10) (v := .ref r2) (C := RX11) (T := TX11) (N := 9) hx hb hU in_X11 hown hK.1 hP 0 rfl rfl 3 (by decide) (hU _ u_253) (fun _ h9 => h9) rfl dX11_core_11 ?_
  refine kt_callV (wc := [(r2, .inr (0, [.ref r3, .int 0, .int 0]))]) (wr := [(h0, .inr (10, [.ref r1, .int 0, .int (-1), .ref r2, .ref r4, .ref r6, .int (-2), .ref r7, .ref r9]))]) (As := []) (rest := [.ref h0]) (c_X0_leastCore l G cy r2 r3) m_X0_leastCore u_436 hx hb hml hown hU hl.1 hK hP hD hS hA dX11_core_14 [1] [0] rfl rfl rfl rfl rfl rfl (Nat.le_of_ble_eq_true rfl) (ci := 0) rfl rfl rfl (fun v9 w9 H locs hw hP hD hS => ?_)
  obtain ⟨rfl, rfl⟩ := hw
  have hP : va_P G vwCl [(h0, .inr (10, [.ref r1, .int 0, .int (-1), .ref r2, .ref r4, .ref r6, .int (-2), .ref r7, .ref r9])), (r2, .inr (0, [.ref r3, .int 0, .int 0]))] H := hP
  have hD : va_D A [(h0, .inr (10, [.ref r1, .int 0, .int (-1), .ref r2, .ref r4, .ref r6, .int (-2), .ref r7, .ref r9])), (r2, .inr (0, [.ref r3, .int 0, .int 0]))] := hD
  refine W.eq (g2 := F0 m 17 ls [.int (-1), .ref h0]) rfl ?_
  refine W.widen (k := 0) (n := 0) (Nat.le_of_ble_eq_true rfl) (Nat.le_of_ble_eq_true rfl) ?_
  refine va_put (D := G) (ci := 10) (v := .int (-1)) (ty := .int) (C := RX11) (T := TX11) (N := 9) hx hb hU in_X11 tyX11 tyX11_ok nmX11 hown hK.1 hP hD hS 0 rfl rfl 6 (by decide) (hU _ u_256) (fun _ h9 => h9) rfl (by decide +kernel) rfl rfl (Nat.le_of_ble_eq_true rfl) dX11_core_17 (fun H locs hP hD hS => ?_)
  have hP : va_P G vwCl [(h0, .inr (10, [.ref r1, .int 0, .int (-1), .ref r2, .ref r4, .ref r6, .int (-1), .ref r7, .ref r9])), (r2, .inr (0, [.ref r3, .int 0, .int 0]))] H := hP
  have hD : va_D A [(h0, .inr (10, [.ref r1, .int 0, .int (-1), .ref r2, .ref r4, .ref r6, .int (-1), .ref r7, .ref r9])), (r2, .inr (0, [.ref r3, .int 0, .int 0]))] := hD
  refine lv_aload_n hx hb dX11_core_20 rfl (lv_at hl 0 rfl) ?_
  refine va_get (D := G) (ci := 10) (v := .int (-1)) (C := RX11) (T := TX11) (N := 9) hx hb hU in_X11 hown hK.1 hP 0 rfl rfl 6 (by decide) (hU _ u_256) (fun _ h9 => h9) rfl dX11_core_21 ?_
  refine lv_iconst (v := (-1)) hx hb dX11_core_24 (by decide) ?_
  refine lv_icmp_ne (tgt := 30) hx hb dX11_core_25 (by decide) (fun c9 => absurd (by decide) c9) (fun _ => ?_)
  refine lv_iconst (v := (-1)) hx hb dX11_core_28 (by decide) ?_
  exact kt_iret hx hb hr hlocks hP hD hS dX11_core_29 [] rfl rfl rfl rfl ⟨rfl, rfl⟩
set_option maxHeartbeats 4000000 in
set_option maxRecDepth 100000 in
theorem c_X11_pure (l : Launch) (G : va_G) (cy : Nat → ClassId) (h0 : Nat) (r1 : Nat) (r2 : Nat) (r4 : Nat) (r6 : Nat) (r7 : Nat) (r9 : Nat) (r3 : Nat) (p0 : Int32) : Kt l G cy yX11_pure cX11_pure 5 (some .int) ({ frames := 12, cells := 0, slots := 0, locals := 300 } : Room) [.ref h0, .int p0] [(h0, .inr (10, [.ref r1, .int 0, .int (-1), .ref r2, .ref r4, .ref r6, .int (-2), .ref r7, .ref r9])), (r2, .inr (0, [.ref r3, .int 0, .int 0]))] (fun (v : Option Value) (w1 : va_W) => v = some (.int 0) ∧ w1 = []) := by
  refine kt_ofW (by decide) (Nat.le_of_ble_eq_true rfl) ?_
  intro p e s m below meth c A ls hx hb hr hU hown hlocks hml hin hP hK hD hA hS hl
  have hown : s.vm.findClass RX11 = some m.cls := hown
  have hl : lv_has ls 5 [(0, .ref h0), (1, .int p0)] := hl
  refine lv_iconst (v := 0) hx hb dX11_pure_0 (by decide) ?_
  refine lv_istore_n (lv' := [(2, .int 0), (0, .ref h0), (1, .int p0)]) hx hb dX11_pure_1 rfl hl (by decide) rfl (fun ls hl => ?_)
  refine lv_iconst (v := 0) hx hb dX11_pure_2 (by decide) ?_
  refine lv_istore_n (lv' := [(3, .int 0), (2, .int 0), (0, .ref h0), (1, .int p0)]) hx hb dX11_pure_3 rfl hl (by decide) rfl (fun ls hl => ?_)
  refine lv_iconst (v := 0) hx hb dX11_pure_4 (by decide) ?_
  refine lv_istore (lv' := [(4, .int 0), (3, .int 0), (2, .int 0), (0, .ref h0), (1, .int p0)]) hx hb dX11_pure_5 hl (by decide) rfl (fun ls hl => ?_)
  refine lv_iload hx hb dX11_pure_7 (lv_at hl 0 rfl) ?_
  refine lv_aload_n hx hb dX11_pure_9 rfl (lv_at hl 3 rfl) ?_
  refine va_get (D := G) (ci := 10) (v := .ref r2) (C := RX11) (T := TX11) (N := 9) hx hb hU in_X11 hown hK.1 hP 0 rfl rfl 3 (by decide) (hU _ u_253) (fun _ h9 => h9) rfl dX11_pure_10 ?_
  refine va_get (D := G) (ci := 0) (v := .int 0) (C := RX0) (T := TX0) (N := 3) hx hb hU in_X0 hown hK.1 hP 1 rfl rfl 1 (by decide) (hU _ u_178) (fun _ h9 => h9) rfl dX11_pure_13 ?_
  refine lv_icmp_ge (tgt := 67) hx hb dX11_pure_16 (by decide) (fun _ => ?_) (fun c9 => absurd (by decide) c9)
  refine lv_iload_n hx hb dX11_pure_67 rfl (lv_at hl 2 rfl) ?_
  refine lv_iload_n hx hb dX11_pure_68 rfl (lv_at hl 1 rfl) ?_
  refine lv_iconst (v := (-1)) hx hb dX11_pure_69 (by decide) ?_
  refine lv_ixor hx hb dX11_pure_70 (lx_top (y := (-1)) (by decide +kernel) ?_)
  refine lv_iand hx hb dX11_pure_71 (lx_top (y := 0) (by decide +kernel) ?_)
  exact kt_iret hx hb hr hlocks hP hD hS dX11_pure_72 [] rfl rfl rfl rfl ⟨rfl, rfl⟩
set_option maxHeartbeats 4000000 in
set_option maxRecDepth 100000 in
theorem c_X11_stands (l : Launch) (G : va_G) (cy : Nat → ClassId) (sa : Nat → Nat) (hlst : l.stackTraces = false) (h0 : Nat) (r1 : Nat) (r2 : Nat) (r4 : Nat) (r6 : Nat) (r7 : Nat) (r9 : Nat) (r3 : Nat) (p0 : Int32) (p1 : Int32) : Kx l G cy sa yX11_stands cX11_stands 7 (some .int) ({ frames := 12, cells := 1, slots := 6, locals := 300 } : Room) [.ref h0, .int p0, .int p1] [(h0, .inr (10, [.ref r1, .int 0, .int (-1), .ref r2, .ref r4, .ref r6, .int (-2), .ref r7, .ref r9])), (r2, .inr (0, [.ref r3, .int 0, .int 0]))] (fun (v : Option Value) (w1 : va_W) => v = some (.int 0) ∧ w1 = [] ∧ (okVar p0)) (fun E => E = eIO ∧ ¬ okVar p0) := by
  refine kx_ofW (by decide) (Nat.le_of_ble_eq_true rfl) ?_
  intro p e s m below meth c A ls hx hb hr hU hown hlocks hml hin hP hK hD hA hS hl hZ hnt
  have hown : s.vm.findClass RX11 = some m.cls := hown
  have hl : lv_has ls 7 [(0, .ref h0), (1, .int p0), (2, .int p1)] := hl
  refine lv_iload_n hx hb dX11_stands_0 rfl (lv_at hl 1 rfl) ?_
  refine lv_if_lt (tgt := 10) hx hb dX11_stands_1 (by decide) (fun c_1 => ?_) (fun c_1 => ?_)
  · exact kx_throw (text := "no such variable") hx hb hlst hown (by decide) hU u_1083 u_144 (by decide) at_156 hZ hS (by rw [hml]; exact hl.1) dX11_stands_10 dX11_stands_13 dX11_stands_14 dX11_stands_16 dX11_stands_19 hnt rfl rfl rfl rfl hlocks ⟨rfl, (by simp [okVar, c_1])⟩
  · refine lv_iload_n hx hb dX11_stands_4 rfl (lv_at hl 1 rfl) ?_
    refine lv_bipush (v := 6) hx hb dX11_stands_5 (by decide) ?_
    refine lv_icmp_lt (tgt := 20) hx hb dX11_stands_7 (by decide) (fun c_2 => ?_) (fun c_2 => ?_)
    · refine lv_iload_n hx hb dX11_stands_20 rfl (lv_at hl 2 rfl) ?_
      refine lv_if_eq (tgt := 34) hx hb dX11_stands_21 (by decide) (fun c_3 => ?_) (fun c_3 => ?_)
      · refine lv_iconst (v := 0) hx hb dX11_stands_34 (by decide) ?_
        refine lv_istore_n (lv' := [(3, .int 0), (0, .ref h0), (1, .int p0), (2, .int p1)]) hx hb dX11_stands_35 rfl hl (by decide) rfl (fun ls hl => ?_)
        refine lv_iload_n hx hb dX11_stands_36 rfl (lv_at hl 3 rfl) ?_
        refine lv_if_eq (tgt := 50) hx hb dX11_stands_37 (by decide) (fun _ => ?_) (fun c9 => absurd c_3 c9)
        refine lv_aload_n hx hb dX11_stands_50 rfl (lv_at hl 1 rfl) ?_
        refine va_get (D := G) (ci := 10) (v := .ref r2) (C := RX11) (T := TX11) (N := 9) hx hb hU in_X11 hown hK.1 hP 0 rfl rfl 3 (by decide) (hU _ u_253) (fun _ h9 => h9) rfl dX11_stands_51 ?_
        refine va_get (D := G) (ci := 0) (v := .int 0) (C := RX0) (T := TX0) (N := 3) hx hb hU in_X0 hown hK.1 hP 1 rfl rfl 1 (by decide) (hU _ u_178) (fun _ h9 => h9) rfl dX11_stands_54 ?_
        refine lv_istore (lv' := [(4, .int 0), (3, .int 0), (0, .ref h0), (1, .int p0), (2, .int p1)]) hx hb dX11_stands_57 hl (by decide) rfl (fun ls hl => ?_)
        refine lv_iconst (v := 0) hx hb dX11_stands_59 (by decide) ?_
        refine lv_istore (lv' := [(5, .int 0), (4, .int 0), (3, .int 0), (0, .ref h0), (1, .int p0), (2, .int p1)]) hx hb dX11_stands_60 hl (by decide) rfl (fun ls hl => ?_)
        refine lv_iload_n hx hb dX11_stands_62 rfl (lv_at hl 2 rfl) ?_
        refine lv_istore (lv' := [(6, .int 0), (5, .int 0), (4, .int 0), (3, .int 0), (0, .ref h0), (1, .int p0), (2, .int p1)]) hx hb dX11_stands_63 hl (by decide) rfl (fun ls hl => ?_)
        refine lv_iload hx hb dX11_stands_65 (lv_at hl 0 rfl) ?_
        refine lv_iload hx hb dX11_stands_67 (lv_at hl 2 rfl) ?_
        refine lv_icmp_ge (tgt := 99) hx hb dX11_stands_69 (by decide) (fun _ => ?_) (fun c9 => absurd (by decide) c9)
        refine lv_iload hx hb dX11_stands_99 (lv_at hl 1 rfl) ?_
        exact vx_ret (kt_iret hx hb hr hlocks hP hD hS dX11_stands_101 [] rfl rfl rfl rfl ⟨rfl, rfl, (by simp [okVar, c_1, c_2, c_3])⟩)
      · refine lv_aload_n hx hb dX11_stands_24 rfl (lv_at hl 0 rfl) ?_
        refine va_get (D := G) (ci := 10) (v := .ref r2) (C := RX11) (T := TX11) (N := 9) hx hb hU in_X11 hown hK.1 hP 0 rfl rfl 3 (by decide) (hU _ u_253) (fun _ h9 => h9) rfl dX11_stands_25 ?_
        refine va_get (D := G) (ci := 0) (v := .int 0) (C := RX0) (T := TX0) (N := 3) hx hb hU in_X0 hown hK.1 hP 1 rfl rfl 1 (by decide) (hU _ u_178) (fun _ h9 => h9) rfl dX11_stands_28 ?_
        refine lv_goto (tgt := 35) hx hb dX11_stands_31 (by decide) ?_
        refine lv_istore_n (lv' := [(3, .int 0), (0, .ref h0), (1, .int p0), (2, .int p1)]) hx hb dX11_stands_35 rfl hl (by decide) rfl (fun ls hl => ?_)
        refine lv_iload_n hx hb dX11_stands_36 rfl (lv_at hl 3 rfl) ?_
        refine lv_if_eq (tgt := 50) hx hb dX11_stands_37 (by decide) (fun c9 => absurd c9 c_3) (fun _ => ?_)
        refine lv_aload_n hx hb dX11_stands_40 rfl (lv_at hl 1 rfl) ?_
        refine va_get (D := G) (ci := 10) (v := .ref r2) (C := RX11) (T := TX11) (N := 9) hx hb hU in_X11 hown hK.1 hP 0 rfl rfl 3 (by decide) (hU _ u_253) (fun _ h9 => h9) rfl dX11_stands_41 ?_
        refine va_get (D := G) (ci := 0) (v := .int 0) (C := RX0) (T := TX0) (N := 3) hx hb hU in_X0 hown hK.1 hP 1 rfl rfl 2 (by decide) (hU _ u_181) (fun _ h9 => h9) rfl dX11_stands_44 ?_
        refine lv_goto (tgt := 57) hx hb dX11_stands_47 (by decide) ?_
        refine lv_istore (lv' := [(4, .int 0), (3, .int 0), (0, .ref h0), (1, .int p0), (2, .int p1)]) hx hb dX11_stands_57 hl (by decide) rfl (fun ls hl => ?_)
        refine lv_iconst (v := 0) hx hb dX11_stands_59 (by decide) ?_
        refine lv_istore (lv' := [(5, .int 0), (4, .int 0), (3, .int 0), (0, .ref h0), (1, .int p0), (2, .int p1)]) hx hb dX11_stands_60 hl (by decide) rfl (fun ls hl => ?_)
        refine lv_iload_n hx hb dX11_stands_62 rfl (lv_at hl 2 rfl) ?_
        refine lv_istore (lv' := [(6, .int 0), (5, .int 0), (4, .int 0), (3, .int 0), (0, .ref h0), (1, .int p0), (2, .int p1)]) hx hb dX11_stands_63 hl (by decide) rfl (fun ls hl => ?_)
        refine lv_iload hx hb dX11_stands_65 (lv_at hl 0 rfl) ?_
        refine lv_iload hx hb dX11_stands_67 (lv_at hl 2 rfl) ?_
        refine lv_icmp_ge (tgt := 99) hx hb dX11_stands_69 (by decide) (fun _ => ?_) (fun c9 => absurd (by decide) c9)
        refine lv_iload hx hb dX11_stands_99 (lv_at hl 1 rfl) ?_
        exact vx_ret (kt_iret hx hb hr hlocks hP hD hS dX11_stands_101 [] rfl rfl rfl rfl ⟨rfl, rfl, (by simp [okVar, c_1, c_2, c_3])⟩)
    · exact kx_throw (text := "no such variable") hx hb hlst hown (by decide) hU u_1083 u_144 (by decide) at_156 hZ hS (by rw [hml]; exact hl.1) dX11_stands_10 dX11_stands_13 dX11_stands_14 dX11_stands_16 dX11_stands_19 hnt rfl rfl rfl rfl hlocks ⟨rfl, (by simp [okVar, c_1, c_2])⟩
set_option maxHeartbeats 4000000 in
set_option maxRecDepth 100000 in
theorem c_X11_count (l : Launch) (G : va_G) (cy : Nat → ClassId) (h0 : Nat) (r1 : Nat) (r2 : Nat) (r4 : Nat) (r6 : Nat) (r7 : Nat) (r9 : Nat) (r3 : Nat) (r8 : Nat) (p0 : Int32) : Kt l G cy yX11_count cX11_count 2 (some .int) ({ frames := 12, cells := 0, slots := 0, locals := 300 } : Room) [.ref h0, .int p0] [(h0, .inr (10, [.ref r1, .int 0, .int (-1), .ref r2, .ref r4, .ref r6, .int (-2), .ref r7, .ref r9])), (r2, .inr (0, [.ref r3, .int 0, .int 0])), (r7, .inr (7, [.ref r8, .int 0, .int 0]))] (fun (v : Option Value) (w1 : va_W) => ∃ (r : Int32), v = some (.int r) ∧ w1 = [] ∧ (r = sp_count p0)) := by
  refine kt_ofW (by decide) (Nat.le_of_ble_eq_true rfl) ?_
  intro p e s m below meth c A ls hx hb hr hU hown hlocks hml hin hP hK hD hA hS hl
  have hown : s.vm.findClass RX11 = some m.cls := hown
  have hl : lv_has ls 2 [(0, .ref h0), (1, .int p0)] := hl
  refine lv_iload_n hx hb dX11_count_0 rfl (lv_at hl 1 rfl) ?_
  by_cases c_1 : p0 = 0
  · refine lv_tableIn (off := 59) (tgt := 60) hx hb dX11_count_1 (by rw [c_1]; decide) (by rw [c_1]; decide) (by rw [c_1]; rfl) (by decide) ?_
    refine lv_aload_n hx hb dX11_count_60 rfl (lv_at hl 0 rfl) ?_
    refine va_get (D := G) (ci := 10) (v := .ref r2) (C := RX11) (T := TX11) (N := 9) hx hb hU in_X11 hown hK.1 hP 0 rfl rfl 3 (by decide) (hU _ u_253) (fun _ h9 => h9) rfl dX11_count_61 ?_
    refine va_get (D := G) (ci := 0) (v := .int 0) (C := RX0) (T := TX0) (N := 3) hx hb hU in_X0 hown hK.1 hP 1 rfl rfl 1 (by decide) (hU _ u_178) (fun _ h9 => h9) rfl dX11_count_64 ?_
    exact kt_iret hx hb hr hlocks hP hD hS dX11_count_67 [] rfl rfl rfl rfl ⟨0, rfl, rfl, (by simp [sp_count, c_1])⟩
  by_cases c_2 : p0 = 1
  · refine lv_tableIn (off := 67) (tgt := 68) hx hb dX11_count_1 (by rw [c_2]; decide) (by rw [c_2]; decide) (by rw [c_2]; rfl) (by decide) ?_
    refine lv_aload_n hx hb dX11_count_68 rfl (lv_at hl 0 rfl) ?_
    refine va_get (D := G) (ci := 10) (v := .ref r2) (C := RX11) (T := TX11) (N := 9) hx hb hU in_X11 hown hK.1 hP 0 rfl rfl 3 (by decide) (hU _ u_253) (fun _ h9 => h9) rfl dX11_count_69 ?_
    refine va_get (D := G) (ci := 0) (v := .int 0) (C := RX0) (T := TX0) (N := 3) hx hb hU in_X0 hown hK.1 hP 1 rfl rfl 2 (by decide) (hU _ u_181) (fun _ h9 => h9) rfl dX11_count_72 ?_
    exact kt_iret hx hb hr hlocks hP hD hS dX11_count_75 [] rfl rfl rfl rfl ⟨0, rfl, rfl, (by simp [sp_count, c_1, c_2])⟩
  by_cases c_3 : p0 = 2
  · refine lv_tableIn (off := 75) (tgt := 76) hx hb dX11_count_1 (by rw [c_3]; decide) (by rw [c_3]; decide) (by rw [c_3]; rfl) (by decide) ?_
    refine lv_aload_n hx hb dX11_count_76 rfl (lv_at hl 0 rfl) ?_
    refine va_get (D := G) (ci := 10) (v := .ref r2) (C := RX11) (T := TX11) (N := 9) hx hb hU in_X11 hown hK.1 hP 0 rfl rfl 3 (by decide) (hU _ u_253) (fun _ h9 => h9) rfl dX11_count_77 ?_
    refine va_get (D := G) (ci := 0) (v := .int 0) (C := RX0) (T := TX0) (N := 3) hx hb hU in_X0 hown hK.1 hP 1 rfl rfl 2 (by decide) (hU _ u_181) (fun _ h9 => h9) rfl dX11_count_80 ?_
    refine lv_aload_n hx hb dX11_count_83 rfl (lv_at hl 0 rfl) ?_
    refine va_get (D := G) (ci := 10) (v := .ref r2) (C := RX11) (T := TX11) (N := 9) hx hb hU in_X11 hown hK.1 hP 0 rfl rfl 3 (by decide) (hU _ u_253) (fun _ h9 => h9) rfl dX11_count_84 ?_
    refine kt_callV (wc := [(r2, .inr (0, [.ref r3, .int 0, .int 0]))]) (wr := [(h0, .inr (10, [.ref r1, .int 0, .int (-1), .ref r2, .ref r4, .ref r6, .int (-2), .ref r7, .ref r9])), (r7, .inr (7, [.ref r8, .int 0, .int 0]))]) (As := []) (rest := [.int 0]) (c_X0_planeCount l G cy r2 r3) m_X0_planeCount u_458 hx hb hml hown hU hl.1 hK hP hD hS hA dX11_count_87 [1] [0, 2] rfl rfl rfl rfl rfl rfl (Nat.le_of_ble_eq_true rfl) (ci := 0) rfl rfl rfl (fun v9 w9 H locs hw hP hD hS => ?_)
    obtain ⟨rfl, rfl⟩ := hw
    have hP : va_P G vwCl [(h0, .inr (10, [.ref r1, .int 0, .int (-1), .ref r2, .ref r4, .ref r6, .int (-2), .ref r7, .ref r9])), (r7, .inr (7, [.ref r8, .int 0, .int 0])), (r2, .inr (0, [.ref r3, .int 0, .int 0]))] H := hP
    have hD : va_D A [(h0, .inr (10, [.ref r1, .int 0, .int (-1), .ref r2, .ref r4, .ref r6, .int (-2), .ref r7, .ref r9])), (r7, .inr (7, [.ref r8, .int 0, .int 0])), (r2, .inr (0, [.ref r3, .int 0, .int 0]))] := hD
    refine W.eq (g2 := F0 m 90 ls [.int 0, .int 0]) rfl ?_
    refine W.widen (k := 0) (n := 0) (Nat.le_of_ble_eq_true rfl) (Nat.le_of_ble_eq_true rfl) ?_
    refine lv_isub hx hb dX11_count_90 (lx_top (y := 0) (by decide +kernel) ?_)
    exact kt_iret hx hb hr hlocks hP hD hS dX11_count_91 [] rfl rfl rfl rfl ⟨0, rfl, rfl, (by simp [sp_count, c_1, c_2, c_3])⟩
  by_cases c_4 : p0 = 3
  · refine lv_tableIn (off := 91) (tgt := 92) hx hb dX11_count_1 (by rw [c_4]; decide) (by rw [c_4]; decide) (by rw [c_4]; rfl) (by decide) ?_
    refine lv_aload_n hx hb dX11_count_92 rfl (lv_at hl 0 rfl) ?_
    refine va_get (D := G) (ci := 10) (v := .ref r2) (C := RX11) (T := TX11) (N := 9) hx hb hU in_X11 hown hK.1 hP 0 rfl rfl 3 (by decide) (hU _ u_253) (fun _ h9 => h9) rfl dX11_count_93 ?_
    refine kt_callV (wc := [(r2, .inr (0, [.ref r3, .int 0, .int 0]))]) (wr := [(h0, .inr (10, [.ref r1, .int 0, .int (-1), .ref r2, .ref r4, .ref r6, .int (-2), .ref r7, .ref r9])), (r7, .inr (7, [.ref r8, .int 0, .int 0]))]) (As := []) (rest := []) (c_X0_planeCount l G cy r2 r3) m_X0_planeCount u_458 hx hb hml hown hU hl.1 hK hP hD hS hA dX11_count_96 [1] [0, 2] rfl rfl rfl rfl rfl rfl (Nat.le_of_ble_eq_true rfl) (ci := 0) rfl rfl rfl (fun v9 w9 H locs hw hP hD hS => ?_)
    obtain ⟨rfl, rfl⟩ := hw
    have hP : va_P G vwCl [(h0, .inr (10, [.ref r1, .int 0, .int (-1), .ref r2, .ref r4, .ref r6, .int (-2), .ref r7, .ref r9])), (r7, .inr (7, [.ref r8, .int 0, .int 0])), (r2, .inr (0, [.ref r3, .int 0, .int 0]))] H := hP
    have hD : va_D A [(h0, .inr (10, [.ref r1, .int 0, .int (-1), .ref r2, .ref r4, .ref r6, .int (-2), .ref r7, .ref r9])), (r7, .inr (7, [.ref r8, .int 0, .int 0])), (r2, .inr (0, [.ref r3, .int 0, .int 0]))] := hD
    refine W.eq (g2 := F0 m 99 ls [.int 0]) rfl ?_
    refine W.widen (k := 0) (n := 0) (Nat.le_of_ble_eq_true rfl) (Nat.le_of_ble_eq_true rfl) ?_
    exact kt_iret hx hb hr hlocks hP hD hS dX11_count_99 [] rfl rfl rfl rfl ⟨0, rfl, rfl, (by simp [sp_count, c_1, c_2, c_3, c_4])⟩
  by_cases c_5 : p0 = 4
  · refine lv_tableIn (off := 99) (tgt := 100) hx hb dX11_count_1 (by rw [c_5]; decide) (by rw [c_5]; decide) (by rw [c_5]; rfl) (by decide) ?_
    refine lv_aload_n hx hb dX11_count_100 rfl (lv_at hl 0 rfl) ?_
    refine va_get (D := G) (ci := 10) (v := .ref r2) (C := RX11) (T := TX11) (N := 9) hx hb hU in_X11 hown hK.1 hP 0 rfl rfl 3 (by decide) (hU _ u_253) (fun _ h9 => h9) rfl dX11_count_101 ?_
    refine lv_iconst (v := 1) hx hb dX11_count_104 (by decide) ?_
    refine kt_callV (wc := [(r2, .inr (0, [.ref r3, .int 0, .int 0]))]) (wr := [(h0, .inr (10, [.ref r1, .int 0, .int (-1), .ref r2, .ref r4, .ref r6, .int (-2), .ref r7, .ref r9])), (r7, .inr (7, [.ref r8, .int 0, .int 0]))]) (As := [.int 1]) (rest := []) (c_X0_madeBy l G cy r2 r3 1) m_X0_madeBy u_462 hx hb hml hown hU hl.1 hK hP hD hS hA dX11_count_105 [1] [0, 2] rfl rfl rfl rfl rfl rfl (Nat.le_of_ble_eq_true rfl) (ci := 0) rfl rfl rfl (fun v9 w9 H locs hw hP hD hS => ?_)
    obtain ⟨rfl, rfl⟩ := hw
    have hP : va_P G vwCl [(h0, .inr (10, [.ref r1, .int 0, .int (-1), .ref r2, .ref r4, .ref r6, .int (-2), .ref r7, .ref r9])), (r7, .inr (7, [.ref r8, .int 0, .int 0])), (r2, .inr (0, [.ref r3, .int 0, .int 0]))] H := hP
    have hD : va_D A [(h0, .inr (10, [.ref r1, .int 0, .int (-1), .ref r2, .ref r4, .ref r6, .int (-2), .ref r7, .ref r9])), (r7, .inr (7, [.ref r8, .int 0, .int 0])), (r2, .inr (0, [.ref r3, .int 0, .int 0]))] := hD
    refine W.eq (g2 := F0 m 108 ls [.int 0]) rfl ?_
    refine W.widen (k := 0) (n := 0) (Nat.le_of_ble_eq_true rfl) (Nat.le_of_ble_eq_true rfl) ?_
    exact kt_iret hx hb hr hlocks hP hD hS dX11_count_108 [] rfl rfl rfl rfl ⟨0, rfl, rfl, (by simp [sp_count, c_1, c_2, c_3, c_4, c_5])⟩
  by_cases c_6 : p0 = 5
  · refine lv_tableIn (off := 108) (tgt := 109) hx hb dX11_count_1 (by rw [c_6]; decide) (by rw [c_6]; decide) (by rw [c_6]; rfl) (by decide) ?_
    refine lv_aload_n hx hb dX11_count_109 rfl (lv_at hl 0 rfl) ?_
    refine va_get (D := G) (ci := 10) (v := .ref r2) (C := RX11) (T := TX11) (N := 9) hx hb hU in_X11 hown hK.1 hP 0 rfl rfl 3 (by decide) (hU _ u_253) (fun _ h9 => h9) rfl dX11_count_110 ?_
    refine lv_bipush (v := 6) hx hb dX11_count_113 (by decide) ?_
    refine kt_callV (wc := [(r2, .inr (0, [.ref r3, .int 0, .int 0]))]) (wr := [(h0, .inr (10, [.ref r1, .int 0, .int (-1), .ref r2, .ref r4, .ref r6, .int (-2), .ref r7, .ref r9])), (r7, .inr (7, [.ref r8, .int 0, .int 0]))]) (As := [.int 6]) (rest := []) (c_X0_madeBy l G cy r2 r3 6) m_X0_madeBy u_462 hx hb hml hown hU hl.1 hK hP hD hS hA dX11_count_115 [1] [0, 2] rfl rfl rfl rfl rfl rfl (Nat.le_of_ble_eq_true rfl) (ci := 0) rfl rfl rfl (fun v9 w9 H locs hw hP hD hS => ?_)
    obtain ⟨rfl, rfl⟩ := hw
    have hP : va_P G vwCl [(h0, .inr (10, [.ref r1, .int 0, .int (-1), .ref r2, .ref r4, .ref r6, .int (-2), .ref r7, .ref r9])), (r7, .inr (7, [.ref r8, .int 0, .int 0])), (r2, .inr (0, [.ref r3, .int 0, .int 0]))] H := hP
    have hD : va_D A [(h0, .inr (10, [.ref r1, .int 0, .int (-1), .ref r2, .ref r4, .ref r6, .int (-2), .ref r7, .ref r9])), (r7, .inr (7, [.ref r8, .int 0, .int 0])), (r2, .inr (0, [.ref r3, .int 0, .int 0]))] := hD
    refine W.eq (g2 := F0 m 118 ls [.int 0]) rfl ?_
    refine W.widen (k := 0) (n := 0) (Nat.le_of_ble_eq_true rfl) (Nat.le_of_ble_eq_true rfl) ?_
    exact kt_iret hx hb hr hlocks hP hD hS dX11_count_118 [] rfl rfl rfl rfl ⟨0, rfl, rfl, (by simp [sp_count, c_1, c_2, c_3, c_4, c_5, c_6])⟩
  by_cases c_7 : p0 = 6
  · refine lv_tableIn (off := 118) (tgt := 119) hx hb dX11_count_1 (by rw [c_7]; decide) (by rw [c_7]; decide) (by rw [c_7]; rfl) (by decide) ?_
    refine lv_aload_n hx hb dX11_count_119 rfl (lv_at hl 0 rfl) ?_
    refine va_get (D := G) (ci := 10) (v := .ref r2) (C := RX11) (T := TX11) (N := 9) hx hb hU in_X11 hown hK.1 hP 0 rfl rfl 3 (by decide) (hU _ u_253) (fun _ h9 => h9) rfl dX11_count_120 ?_
    refine lv_bipush (v := 8) hx hb dX11_count_123 (by decide) ?_
    refine kt_callV (wc := [(r2, .inr (0, [.ref r3, .int 0, .int 0]))]) (wr := [(h0, .inr (10, [.ref r1, .int 0, .int (-1), .ref r2, .ref r4, .ref r6, .int (-2), .ref r7, .ref r9])), (r7, .inr (7, [.ref r8, .int 0, .int 0]))]) (As := [.int 8]) (rest := []) (c_X0_madeBy l G cy r2 r3 8) m_X0_madeBy u_462 hx hb hml hown hU hl.1 hK hP hD hS hA dX11_count_125 [1] [0, 2] rfl rfl rfl rfl rfl rfl (Nat.le_of_ble_eq_true rfl) (ci := 0) rfl rfl rfl (fun v9 w9 H locs hw hP hD hS => ?_)
    obtain ⟨rfl, rfl⟩ := hw
    have hP : va_P G vwCl [(h0, .inr (10, [.ref r1, .int 0, .int (-1), .ref r2, .ref r4, .ref r6, .int (-2), .ref r7, .ref r9])), (r7, .inr (7, [.ref r8, .int 0, .int 0])), (r2, .inr (0, [.ref r3, .int 0, .int 0]))] H := hP
    have hD : va_D A [(h0, .inr (10, [.ref r1, .int 0, .int (-1), .ref r2, .ref r4, .ref r6, .int (-2), .ref r7, .ref r9])), (r7, .inr (7, [.ref r8, .int 0, .int 0])), (r2, .inr (0, [.ref r3, .int 0, .int 0]))] := hD
    refine W.eq (g2 := F0 m 128 ls [.int 0]) rfl ?_
    refine W.widen (k := 0) (n := 0) (Nat.le_of_ble_eq_true rfl) (Nat.le_of_ble_eq_true rfl) ?_
    exact kt_iret hx hb hr hlocks hP hD hS dX11_count_128 [] rfl rfl rfl rfl ⟨0, rfl, rfl, (by simp [sp_count, c_1, c_2, c_3, c_4, c_5, c_6, c_7])⟩
  by_cases c_8 : p0 = 7
  · refine lv_tableIn (off := 128) (tgt := 129) hx hb dX11_count_1 (by rw [c_8]; decide) (by rw [c_8]; decide) (by rw [c_8]; rfl) (by decide) ?_
    refine lv_aload_n hx hb dX11_count_129 rfl (lv_at hl 0 rfl) ?_
    refine va_get (D := G) (ci := 10) (v := .ref r2) (C := RX11) (T := TX11) (N := 9) hx hb hU in_X11 hown hK.1 hP 0 rfl rfl 3 (by decide) (hU _ u_253) (fun _ h9 => h9) rfl dX11_count_130 ?_
    refine lv_bipush (v := 9) hx hb dX11_count_133 (by decide) ?_
    refine kt_callV (wc := [(r2, .inr (0, [.ref r3, .int 0, .int 0]))]) (wr := [(h0, .inr (10, [.ref r1, .int 0, .int (-1), .ref r2, .ref r4, .ref r6, .int (-2), .ref r7, .ref r9])), (r7, .inr (7, [.ref r8, .int 0, .int 0]))]) (As := [.int 9]) (rest := []) (c_X0_madeBy l G cy r2 r3 9) m_X0_madeBy u_462 hx hb hml hown hU hl.1 hK hP hD hS hA dX11_count_135 [1] [0, 2] rfl rfl rfl rfl rfl rfl (Nat.le_of_ble_eq_true rfl) (ci := 0) rfl rfl rfl (fun v9 w9 H locs hw hP hD hS => ?_)
    obtain ⟨rfl, rfl⟩ := hw
    have hP : va_P G vwCl [(h0, .inr (10, [.ref r1, .int 0, .int (-1), .ref r2, .ref r4, .ref r6, .int (-2), .ref r7, .ref r9])), (r7, .inr (7, [.ref r8, .int 0, .int 0])), (r2, .inr (0, [.ref r3, .int 0, .int 0]))] H := hP
    have hD : va_D A [(h0, .inr (10, [.ref r1, .int 0, .int (-1), .ref r2, .ref r4, .ref r6, .int (-2), .ref r7, .ref r9])), (r7, .inr (7, [.ref r8, .int 0, .int 0])), (r2, .inr (0, [.ref r3, .int 0, .int 0]))] := hD
    refine W.eq (g2 := F0 m 138 ls [.int 0]) rfl ?_
    refine W.widen (k := 0) (n := 0) (Nat.le_of_ble_eq_true rfl) (Nat.le_of_ble_eq_true rfl) ?_
    exact kt_iret hx hb hr hlocks hP hD hS dX11_count_138 [] rfl rfl rfl rfl ⟨0, rfl, rfl, (by simp [sp_count, c_1, c_2, c_3, c_4, c_5, c_6, c_7, c_8])⟩
  by_cases c_9 : p0 = 8
  · refine lv_tableIn (off := 138) (tgt := 139) hx hb dX11_count_1 (by rw [c_9]; decide) (by rw [c_9]; decide) (by rw [c_9]; rfl) (by decide) ?_
    refine lv_aload_n hx hb dX11_count_139 rfl (lv_at hl 0 rfl) ?_
    refine va_get (D := G) (ci := 10) (v := .ref r7) (C := RX11) (T := TX11) (N := 9) hx hb hU in_X11 hown hK.1 hP 0 rfl rfl 7 (by decide) (hU _ u_257) (fun _ h9 => h9) rfl dX11_count_140 ?_
    refine va_get (D := G) (ci := 7) (v := .int 0) (C := RX7) (T := TX7) (N := 3) hx hb hU in_X7 hown hK.1 hP 2 rfl rfl 1 (by decide) (hU _ u_225) (fun _ h9 => h9) rfl dX11_count_143 ?_
    exact kt_iret hx hb hr hlocks hP hD hS dX11_count_146 [] rfl rfl rfl rfl ⟨0, rfl, rfl, (by simp [sp_count, c_1, c_2, c_3, c_4, c_5, c_6, c_7, c_8, c_9])⟩
  by_cases c_10 : p0 = 9
  · refine lv_tableIn (off := 146) (tgt := 147) hx hb dX11_count_1 (by rw [c_10]; decide) (by rw [c_10]; decide) (by rw [c_10]; rfl) (by decide) ?_
    refine lv_aload_n hx hb dX11_count_147 rfl (lv_at hl 0 rfl) ?_
    refine va_get (D := G) (ci := 10) (v := .ref r2) (C := RX11) (T := TX11) (N := 9) hx hb hU in_X11 hown hK.1 hP 0 rfl rfl 3 (by decide) (hU _ u_253) (fun _ h9 => h9) rfl dX11_count_148 ?_
    refine lv_iconst (v := (-1)) hx hb dX11_count_151 (by decide) ?_
    refine kt_callV (wc := [(r2, .inr (0, [.ref r3, .int 0, .int 0]))]) (wr := [(h0, .inr (10, [.ref r1, .int 0, .int (-1), .ref r2, .ref r4, .ref r6, .int (-2), .ref r7, .ref r9])), (r7, .inr (7, [.ref r8, .int 0, .int 0]))]) (As := [.int (-1)]) (rest := []) (c_X0_modelsWithout l G cy r2 r3 (-1)) m_X0_modelsWithout u_298 hx hb hml hown hU hl.1 hK hP hD hS hA dX11_count_152 [1] [0, 2] rfl rfl rfl rfl rfl rfl (Nat.le_of_ble_eq_true rfl) (ci := 0) rfl rfl rfl (fun v9 w9 H locs hw hP hD hS => ?_)
    obtain ⟨rfl, rfl⟩ := hw
    have hP : va_P G vwCl [(h0, .inr (10, [.ref r1, .int 0, .int (-1), .ref r2, .ref r4, .ref r6, .int (-2), .ref r7, .ref r9])), (r7, .inr (7, [.ref r8, .int 0, .int 0])), (r2, .inr (0, [.ref r3, .int 0, .int 0]))] H := hP
    have hD : va_D A [(h0, .inr (10, [.ref r1, .int 0, .int (-1), .ref r2, .ref r4, .ref r6, .int (-2), .ref r7, .ref r9])), (r7, .inr (7, [.ref r8, .int 0, .int 0])), (r2, .inr (0, [.ref r3, .int 0, .int 0]))] := hD
    refine W.eq (g2 := F0 m 155 ls [.long (-1)]) rfl ?_
    refine W.widen (k := 0) (n := 0) (Nat.le_of_ble_eq_true rfl) (Nat.le_of_ble_eq_true rfl) ?_
    refine kt_callS (wc := []) (wr := [(h0, .inr (10, [.ref r1, .int 0, .int (-1), .ref r2, .ref r4, .ref r6, .int (-2), .ref r7, .ref r9])), (r7, .inr (7, [.ref r8, .int 0, .int 0])), (r2, .inr (0, [.ref r3, .int 0, .int 0]))]) (As := [.long (-1)]) (rest := []) (c_J13_bitCount_95d88 l G cy ) m_J13_bitCount_95d88 u_303 hx hb hml hown hU hl.1 hK hP hD hS hA dX11_count_155 [] [0, 1, 2] rfl rfl rfl rfl rfl rfl (Nat.le_of_ble_eq_true rfl) (fun v9 w9 H locs hw hP hD hS => ?_)
    obtain ⟨rfl, rfl⟩ := hw
    have hP : va_P G vwCl [(h0, .inr (10, [.ref r1, .int 0, .int (-1), .ref r2, .ref r4, .ref r6, .int (-2), .ref r7, .ref r9])), (r7, .inr (7, [.ref r8, .int 0, .int 0])), (r2, .inr (0, [.ref r3, .int 0, .int 0]))] H := hP
    have hD : va_D A [(h0, .inr (10, [.ref r1, .int 0, .int (-1), .ref r2, .ref r4, .ref r6, .int (-2), .ref r7, .ref r9])), (r7, .inr (7, [.ref r8, .int 0, .int 0])), (r2, .inr (0, [.ref r3, .int 0, .int 0]))] := hD
    refine W.eq (g2 := F0 m 158 ls [.int 64]) rfl ?_
    refine W.widen (k := 0) (n := 0) (Nat.le_of_ble_eq_true rfl) (Nat.le_of_ble_eq_true rfl) ?_
    exact kt_iret hx hb hr hlocks hP hD hS dX11_count_158 [] rfl rfl rfl rfl ⟨64, rfl, rfl, (by simp [sp_count, c_1, c_2, c_3, c_4, c_5, c_6, c_7, c_8, c_9, c_10])⟩
  by_cases c_11 : p0 = 10
  · refine lv_tableIn (off := 158) (tgt := 159) hx hb dX11_count_1 (by rw [c_11]; decide) (by rw [c_11]; decide) (by rw [c_11]; rfl) (by decide) ?_
    refine lv_aload_n hx hb dX11_count_159 rfl (lv_at hl 0 rfl) ?_
    refine va_get (D := G) (ci := 10) (v := .ref r2) (C := RX11) (T := TX11) (N := 9) hx hb hU in_X11 hown hK.1 hP 0 rfl rfl 3 (by decide) (hU _ u_253) (fun _ h9 => h9) rfl dX11_count_160 ?_
    refine kt_callV (wc := [(r2, .inr (0, [.ref r3, .int 0, .int 0]))]) (wr := [(h0, .inr (10, [.ref r1, .int 0, .int (-1), .ref r2, .ref r4, .ref r6, .int (-2), .ref r7, .ref r9])), (r7, .inr (7, [.ref r8, .int 0, .int 0]))]) (As := []) (rest := []) (c_X0_unusedSteps l G cy r2 r3) m_X0_unusedSteps u_466 hx hb hml hown hU hl.1 hK hP hD hS hA dX11_count_163 [1] [0, 2] rfl rfl rfl rfl rfl rfl (Nat.le_of_ble_eq_true rfl) (ci := 0) rfl rfl rfl (fun v9 w9 H locs hw hP hD hS => ?_)
    obtain ⟨rfl, rfl⟩ := hw
    have hP : va_P G vwCl [(h0, .inr (10, [.ref r1, .int 0, .int (-1), .ref r2, .ref r4, .ref r6, .int (-2), .ref r7, .ref r9])), (r7, .inr (7, [.ref r8, .int 0, .int 0])), (r2, .inr (0, [.ref r3, .int 0, .int 0]))] H := hP
    have hD : va_D A [(h0, .inr (10, [.ref r1, .int 0, .int (-1), .ref r2, .ref r4, .ref r6, .int (-2), .ref r7, .ref r9])), (r7, .inr (7, [.ref r8, .int 0, .int 0])), (r2, .inr (0, [.ref r3, .int 0, .int 0]))] := hD
    refine W.eq (g2 := F0 m 166 ls [.int 0]) rfl ?_
    refine W.widen (k := 0) (n := 0) (Nat.le_of_ble_eq_true rfl) (Nat.le_of_ble_eq_true rfl) ?_
    exact kt_iret hx hb hr hlocks hP hD hS dX11_count_166 [] rfl rfl rfl rfl ⟨0, rfl, rfl, (by simp [sp_count, c_1, c_2, c_3, c_4, c_5, c_6, c_7, c_8, c_9, c_10, c_11])⟩
  refine lv_tableOut (tgt := 167) hx hb dX11_count_1 (lx_tout (n := 10) (fun k9 h9 => by rcases (show k9 = 0 ∨ k9 = 1 ∨ k9 = 2 ∨ k9 = 3 ∨ k9 = 4 ∨ k9 = 5 ∨ k9 = 6 ∨ k9 = 7 ∨ k9 = 8 ∨ k9 = 9 ∨ k9 = 10 by omega) with rfl | rfl | rfl | rfl | rfl | rfl | rfl | rfl | rfl | rfl | rfl <;> assumption) (by decide)) (by decide) ?_
  refine lv_iconst (v := (-1)) hx hb dX11_count_167 (by decide) ?_
  exact kt_iret hx hb hr hlocks hP hD hS dX11_count_168 [] rfl rfl rfl rfl ⟨(-1), rfl, rfl, (by simp [sp_count, c_1, c_2, c_3, c_4, c_5, c_6, c_7, c_8, c_9, c_10, c_11])⟩
