set_option maxHeartbeats 4000000 in
set_option maxRecDepth 100000 in
theorem c_L_line (l : Launch) (G : va_G) (cy : Nat → ClassId) (sa : Nat → Nat) (hlst : l.stackTraces = false) (h0 : Nat) (r1 : Nat) (r2 : Nat) (r4 : Nat) (r6 : Nat) (r7 : Nat) (r9 : Nat) (r3 : Nat) (o0 : Nat) (p0 : Int32) (p1 : Int32) : Kw l G cy sa yL_line cL_line 5 (some .int) [(0, 10, 13, 22), (0, 10, 17, 24)] ({ frames := 18, cells := 1, slots := 6, locals := 600 } : Room) [.ref h0, .int p0, .int p1, .ref o0] [(h0, .inr (10, [.ref r1, .int 0, .int (-1), .ref r2, .ref r4, .ref r6, .int (-2), .ref r7, .ref r9])), (r2, .inr (0, [.ref r3, .int 0, .int 0])), (o0, .inl (cy 2, 1, .inr (.inl (fun _ => 0))))] (fun (v : Option Value) (w1 : va_W) => v = some (.int 1) ∧ w1 = [(o0, .inl (cy 2, 1, .inr (.inl (fun _ => 0))))]) := by
  refine kw_ofW (by decide) (Nat.le_of_ble_eq_true rfl) ?_
  intro p e s m below meth c A ls hx hb hr hU hown hlocks hml hin hP hK hD hA hS hl hZ htab
  have hown : s.vm.findClass RL = some m.cls := hown
  have hl : lv_has ls 5 [(0, .ref h0), (1, .int p0), (2, .int p1), (3, .ref o0)] := hl
  refine lv_aload_n hx hb dL_line_0 rfl (lv_at hl 3 rfl) ?_
  refine lv_iconst (v := 0) hx hb dL_line_1 (by decide) ?_
  refine lv_aload_n hx hb dL_line_2 rfl (lv_at hl 0 rfl) ?_
  refine lv_iload_n hx hb dL_line_3 rfl (lv_at hl 1 rfl) ?_
  refine lv_iload_n hx hb dL_line_4 rfl (lv_at hl 2 rfl) ?_
  refine kx_callVH (wc := [(h0, .inr (10, [.ref r1, .int 0, .int (-1), .ref r2, .ref r4, .ref r6, .int (-2), .ref r7, .ref r9])), (r2, .inr (0, [.ref r3, .int 0, .int 0]))]) (wr := [(o0, .inl (cy 2, 1, .inr (.inl (fun _ => 0))))]) (As := [.int p0, .int p1]) (rest := [.int 0, .ref o0]) (c_X11_line l G cy sa hlst h0 r1 r2 r4 r6 r7 r9 r3 p0 p1) m_X11_line u_1075 hx hb hml hown hU hl.1 hK hP hD hS hA dL_line_5 [0, 1] [2] rfl rfl rfl rfl rfl rfl (Nat.le_of_ble_eq_true rfl) (ci := 10) rfl rfl rfl hZ (fun E9 ce9 q9 H locs hpx hP hD hS hce hcv hcl => ?_) (fun v9 w9 H locs hw hP hD hS => ?_)
  · rcases hpx with rfl
    refine vx_catch hown [] (⟨0, 10, 13, 22⟩ : ExceptionTableEntry) [(⟨0, 10, 17, 24⟩ : ExceptionTableEntry)] (by rw [htab]; rfl) (fun z9 h9 => by cases h9) (by decide) (by decide) (hU _ u_1073) (va_Nw.use rfl (hZ.2.2.2.1 (.castable eIO eIO) (by decide +kernel))) hce hcv hcl ?_
    refine W.eq (g2 := F0 m 13 ls [.ref q9]) rfl ?_
    refine W.widen (k := 1) (n := 6) (Nat.le_of_ble_eq_true rfl) (Nat.le_of_ble_eq_true rfl) ?_
    have hP : va_P G vwCl [(o0, .inl (cy 2, 1, .inr (.inl (fun _ => 0))))] H := hP
    have hD : va_D A [(o0, .inl (cy 2, 1, .inr (.inl (fun _ => 0))))] := hD
    refine lv_astore (lv' := [(4, .ref q9), (0, .ref h0), (1, .int p0), (2, .int p1), (3, .ref o0)]) hx hb dL_line_13 hl (by decide) rfl (fun ls hl => ?_)
    refine lv_iconst (v := 1) hx hb dL_line_15 (by decide) ?_
    exact vx_ret (kt_iret hx hb hr hlocks hP hD hS dL_line_16 [0] rfl rfl rfl rfl ⟨rfl, rfl⟩)
  · exact hw.elim
set_option maxHeartbeats 4000000 in
set_option maxRecDepth 100000 in
theorem c_L_lits (l : Launch) (G : va_G) (cy : Nat → ClassId) (sa : Nat → Nat) (hlst : l.stackTraces = false) (h0 : Nat) (r1 : Nat) (r2 : Nat) (r4 : Nat) (r6 : Nat) (r7 : Nat) (r9 : Nat) (r3 : Nat) (o0 : Nat) (p0 : Int32) (p1 : Int32) : Kw l G cy sa yL_lits cL_lits 5 (some .int) [(0, 10, 13, 22), (0, 10, 17, 24)] ({ frames := 18, cells := 1, slots := 6, locals := 600 } : Room) [.ref h0, .int p0, .int p1, .ref o0] [(h0, .inr (10, [.ref r1, .int 0, .int (-1), .ref r2, .ref r4, .ref r6, .int (-2), .ref r7, .ref r9])), (r2, .inr (0, [.ref r3, .int 0, .int 0])), (o0, .inl (cy 2, 1, .inr (.inl (fun _ => 0))))] (fun (v : Option Value) (w1 : va_W) => v = some (.int 1) ∧ w1 = [(o0, .inl (cy 2, 1, .inr (.inl (fun _ => 0))))]) := by
  refine kw_ofW (by decide) (Nat.le_of_ble_eq_true rfl) ?_
  intro p e s m below meth c A ls hx hb hr hU hown hlocks hml hin hP hK hD hA hS hl hZ htab
  have hown : s.vm.findClass RL = some m.cls := hown
  have hl : lv_has ls 5 [(0, .ref h0), (1, .int p0), (2, .int p1), (3, .ref o0)] := hl
  refine lv_aload_n hx hb dL_lits_0 rfl (lv_at hl 3 rfl) ?_
  refine lv_iconst (v := 0) hx hb dL_lits_1 (by decide) ?_
  refine lv_aload_n hx hb dL_lits_2 rfl (lv_at hl 0 rfl) ?_
  refine lv_iload_n hx hb dL_lits_3 rfl (lv_at hl 1 rfl) ?_
  refine lv_iload_n hx hb dL_lits_4 rfl (lv_at hl 2 rfl) ?_
  refine kx_callVH (wc := [(h0, .inr (10, [.ref r1, .int 0, .int (-1), .ref r2, .ref r4, .ref r6, .int (-2), .ref r7, .ref r9])), (r2, .inr (0, [.ref r3, .int 0, .int 0]))]) (wr := [(o0, .inl (cy 2, 1, .inr (.inl (fun _ => 0))))]) (As := [.int p0, .int p1]) (rest := [.int 0, .ref o0]) (c_X11_lits l G cy sa hlst h0 r1 r2 r4 r6 r7 r9 r3 p0 p1) m_X11_lits u_1118 hx hb hml hown hU hl.1 hK hP hD hS hA dL_lits_5 [0, 1] [2] rfl rfl rfl rfl rfl rfl (Nat.le_of_ble_eq_true rfl) (ci := 10) rfl rfl rfl hZ (fun E9 ce9 q9 H locs hpx hP hD hS hce hcv hcl => ?_) (fun v9 w9 H locs hw hP hD hS => ?_)
  · rcases hpx with rfl
    refine vx_catch hown [] (⟨0, 10, 13, 22⟩ : ExceptionTableEntry) [(⟨0, 10, 17, 24⟩ : ExceptionTableEntry)] (by rw [htab]; rfl) (fun z9 h9 => by cases h9) (by decide) (by decide) (hU _ u_1073) (va_Nw.use rfl (hZ.2.2.2.1 (.castable eIO eIO) (by decide +kernel))) hce hcv hcl ?_
    refine W.eq (g2 := F0 m 13 ls [.ref q9]) rfl ?_
    refine W.widen (k := 1) (n := 6) (Nat.le_of_ble_eq_true rfl) (Nat.le_of_ble_eq_true rfl) ?_
    have hP : va_P G vwCl [(o0, .inl (cy 2, 1, .inr (.inl (fun _ => 0))))] H := hP
    have hD : va_D A [(o0, .inl (cy 2, 1, .inr (.inl (fun _ => 0))))] := hD
    refine lv_astore (lv' := [(4, .ref q9), (0, .ref h0), (1, .int p0), (2, .int p1), (3, .ref o0)]) hx hb dL_lits_13 hl (by decide) rfl (fun ls hl => ?_)
    refine lv_iconst (v := 1) hx hb dL_lits_15 (by decide) ?_
    exact vx_ret (kt_iret hx hb hr hlocks hP hD hS dL_lits_16 [0] rfl rfl rfl rfl ⟨rfl, rfl⟩)
  · exact hw.elim
set_option maxHeartbeats 4000000 in
set_option maxRecDepth 100000 in
theorem c_L_plane (l : Launch) (G : va_G) (cy : Nat → ClassId) (sa : Nat → Nat) (hlst : l.stackTraces = false) (h0 : Nat) (r1 : Nat) (r2 : Nat) (r4 : Nat) (r6 : Nat) (r7 : Nat) (r9 : Nat) (r3 : Nat) (o0 : Nat) (p0 : Int32) (p1 : Int32) : Kw l G cy sa yL_plane cL_plane 5 (some .int) [(0, 10, 13, 22), (0, 10, 17, 24)] ({ frames := 18, cells := 1, slots := 6, locals := 600 } : Room) [.ref h0, .int p0, .int p1, .ref o0] [(h0, .inr (10, [.ref r1, .int 0, .int (-1), .ref r2, .ref r4, .ref r6, .int (-2), .ref r7, .ref r9])), (r2, .inr (0, [.ref r3, .int 0, .int 0])), (o0, .inl (cy 2, 1, .inr (.inl (fun _ => 0))))] (fun (v : Option Value) (w1 : va_W) => v = some (.int 1) ∧ w1 = [(o0, .inl (cy 2, 1, .inr (.inl (fun _ => 0))))]) := by
  refine kw_ofW (by decide) (Nat.le_of_ble_eq_true rfl) ?_
  intro p e s m below meth c A ls hx hb hr hU hown hlocks hml hin hP hK hD hA hS hl hZ htab
  have hown : s.vm.findClass RL = some m.cls := hown
  have hl : lv_has ls 5 [(0, .ref h0), (1, .int p0), (2, .int p1), (3, .ref o0)] := hl
  refine lv_aload_n hx hb dL_plane_0 rfl (lv_at hl 3 rfl) ?_
  refine lv_iconst (v := 0) hx hb dL_plane_1 (by decide) ?_
  refine lv_aload_n hx hb dL_plane_2 rfl (lv_at hl 0 rfl) ?_
  refine lv_iload_n hx hb dL_plane_3 rfl (lv_at hl 1 rfl) ?_
  refine lv_iload_n hx hb dL_plane_4 rfl (lv_at hl 2 rfl) ?_
  refine kx_callVH (wc := [(h0, .inr (10, [.ref r1, .int 0, .int (-1), .ref r2, .ref r4, .ref r6, .int (-2), .ref r7, .ref r9])), (r2, .inr (0, [.ref r3, .int 0, .int 0]))]) (wr := [(o0, .inl (cy 2, 1, .inr (.inl (fun _ => 0))))]) (As := [.int p0, .int p1]) (rest := [.int 0, .ref o0]) (c_X11_plane l G cy sa hlst h0 r1 r2 r4 r6 r7 r9 r3 p0 p1) m_X11_plane u_1126 hx hb hml hown hU hl.1 hK hP hD hS hA dL_plane_5 [0, 1] [2] rfl rfl rfl rfl rfl rfl (Nat.le_of_ble_eq_true rfl) (ci := 10) rfl rfl rfl hZ (fun E9 ce9 q9 H locs hpx hP hD hS hce hcv hcl => ?_) (fun v9 w9 H locs hw hP hD hS => ?_)
  · rcases hpx with rfl
    refine vx_catch hown [] (⟨0, 10, 13, 22⟩ : ExceptionTableEntry) [(⟨0, 10, 17, 24⟩ : ExceptionTableEntry)] (by rw [htab]; rfl) (fun z9 h9 => by cases h9) (by decide) (by decide) (hU _ u_1073) (va_Nw.use rfl (hZ.2.2.2.1 (.castable eIO eIO) (by decide +kernel))) hce hcv hcl ?_
    refine W.eq (g2 := F0 m 13 ls [.ref q9]) rfl ?_
    refine W.widen (k := 1) (n := 6) (Nat.le_of_ble_eq_true rfl) (Nat.le_of_ble_eq_true rfl) ?_
    have hP : va_P G vwCl [(o0, .inl (cy 2, 1, .inr (.inl (fun _ => 0))))] H := hP
    have hD : va_D A [(o0, .inl (cy 2, 1, .inr (.inl (fun _ => 0))))] := hD
    refine lv_astore (lv' := [(4, .ref q9), (0, .ref h0), (1, .int p0), (2, .int p1), (3, .ref o0)]) hx hb dL_plane_13 hl (by decide) rfl (fun ls hl => ?_)
    refine lv_iconst (v := 1) hx hb dL_plane_15 (by decide) ?_
    exact vx_ret (kt_iret hx hb hr hlocks hP hD hS dL_plane_16 [0] rfl rfl rfl rfl ⟨rfl, rfl⟩)
  · exact hw.elim
set_option maxHeartbeats 4000000 in
set_option maxRecDepth 100000 in
theorem c_L_cut (l : Launch) (G : va_G) (cy : Nat → ClassId) (sa : Nat → Nat) (hlst : l.stackTraces = false) (h0 : Nat) (r1 : Nat) (r2 : Nat) (r4 : Nat) (r6 : Nat) (r7 : Nat) (r9 : Nat) (r3 : Nat) (o0 : Nat) (p0 : Int32) : Kw l G cy sa yL_cut cL_cut 4 (some .int) [(0, 9, 12, 22), (0, 9, 15, 24)] ({ frames := 18, cells := 1, slots := 6, locals := 600 } : Room) [.ref h0, .int p0, .ref o0] [(h0, .inr (10, [.ref r1, .int 0, .int (-1), .ref r2, .ref r4, .ref r6, .int (-2), .ref r7, .ref r9])), (r2, .inr (0, [.ref r3, .int 0, .int 0])), (o0, .inl (cy 2, 1, .inr (.inl (fun _ => 0))))] (fun (v : Option Value) (w1 : va_W) => v = some (.int 1) ∧ w1 = [(o0, .inl (cy 2, 1, .inr (.inl (fun _ => 0))))]) := by
  refine kw_ofW (by decide) (Nat.le_of_ble_eq_true rfl) ?_
  intro p e s m below meth c A ls hx hb hr hU hown hlocks hml hin hP hK hD hA hS hl hZ htab
  have hown : s.vm.findClass RL = some m.cls := hown
  have hl : lv_has ls 4 [(0, .ref h0), (1, .int p0), (2, .ref o0)] := hl
  refine lv_aload_n hx hb dL_cut_0 rfl (lv_at hl 2 rfl) ?_
  refine lv_iconst (v := 0) hx hb dL_cut_1 (by decide) ?_
  refine lv_aload_n hx hb dL_cut_2 rfl (lv_at hl 0 rfl) ?_
  refine lv_iload_n hx hb dL_cut_3 rfl (lv_at hl 1 rfl) ?_
  refine kx_callVH (wc := [(h0, .inr (10, [.ref r1, .int 0, .int (-1), .ref r2, .ref r4, .ref r6, .int (-2), .ref r7, .ref r9])), (r2, .inr (0, [.ref r3, .int 0, .int 0]))]) (wr := [(o0, .inl (cy 2, 1, .inr (.inl (fun _ => 0))))]) (As := [.int p0]) (rest := [.int 0, .ref o0]) (c_X11_cut l G cy sa hlst h0 r1 r2 r4 r6 r7 r9 r3 p0) m_X11_cut u_1135 hx hb hml hown hU hl.1 hK hP hD hS hA dL_cut_4 [0, 1] [2] rfl rfl rfl rfl rfl rfl (Nat.le_of_ble_eq_true rfl) (ci := 10) rfl rfl rfl hZ (fun E9 ce9 q9 H locs hpx hP hD hS hce hcv hcl => ?_) (fun v9 w9 H locs hw hP hD hS => ?_)
  · rcases hpx with rfl
    refine vx_catch hown [] (⟨0, 9, 12, 22⟩ : ExceptionTableEntry) [(⟨0, 9, 15, 24⟩ : ExceptionTableEntry)] (by rw [htab]; rfl) (fun z9 h9 => by cases h9) (by decide) (by decide) (hU _ u_1073) (va_Nw.use rfl (hZ.2.2.2.1 (.castable eIO eIO) (by decide +kernel))) hce hcv hcl ?_
    refine W.eq (g2 := F0 m 12 ls [.ref q9]) rfl ?_
    refine W.widen (k := 1) (n := 6) (Nat.le_of_ble_eq_true rfl) (Nat.le_of_ble_eq_true rfl) ?_
    have hP : va_P G vwCl [(o0, .inl (cy 2, 1, .inr (.inl (fun _ => 0))))] H := hP
    have hD : va_D A [(o0, .inl (cy 2, 1, .inr (.inl (fun _ => 0))))] := hD
    refine lv_astore_n (lv' := [(3, .ref q9), (0, .ref h0), (1, .int p0), (2, .ref o0)]) hx hb dL_cut_12 rfl hl (by decide) rfl (fun ls hl => ?_)
    refine lv_iconst (v := 1) hx hb dL_cut_13 (by decide) ?_
    exact vx_ret (kt_iret hx hb hr hlocks hP hD hS dL_cut_14 [0] rfl rfl rfl rfl ⟨rfl, rfl⟩)
  · exact hw.elim
set_option maxHeartbeats 4000000 in
set_option maxRecDepth 100000 in
theorem c_L_holds (l : Launch) (G : va_G) (cy : Nat → ClassId) (sa : Nat → Nat) (hlst : l.stackTraces = false) (h0 : Nat) (r1 : Nat) (r2 : Nat) (r4 : Nat) (r6 : Nat) (r7 : Nat) (r9 : Nat) (r3 : Nat) (o0 : Nat) (p0 : Int32) (p1 : Int32) : Kw l G cy sa yL_holds cL_holds 5 (some .int) [(0, 17, 20, 22), (0, 17, 24, 13)] ({ frames := 18, cells := 1, slots := 6, locals := 600 } : Room) [.ref h0, .int p0, .int p1, .ref o0] [(h0, .inr (10, [.ref r1, .int 0, .int (-1), .ref r2, .ref r4, .ref r6, .int (-2), .ref r7, .ref r9])), (r2, .inr (0, [.ref r3, .int 0, .int 0])), (o0, .inl (cy 2, 1, .inr (.inl (fun _ => 0))))] (fun (v : Option Value) (w1 : va_W) => v = some (.int 1) ∧ w1 = [(o0, .inl (cy 2, 1, .inr (.inl (fun _ => 0))))]) := by
  refine kw_ofW (by decide) (Nat.le_of_ble_eq_true rfl) ?_
  intro p e s m below meth c A ls hx hb hr hU hown hlocks hml hin hP hK hD hA hS hl hZ htab
  have hown : s.vm.findClass RL = some m.cls := hown
  have hl : lv_has ls 5 [(0, .ref h0), (1, .int p0), (2, .int p1), (3, .ref o0)] := hl
  refine lv_aload_n hx hb dL_holds_0 rfl (lv_at hl 3 rfl) ?_
  refine lv_iconst (v := 0) hx hb dL_holds_1 (by decide) ?_
  refine lv_aload_n hx hb dL_holds_2 rfl (lv_at hl 0 rfl) ?_
  refine lv_iload_n hx hb dL_holds_3 rfl (lv_at hl 1 rfl) ?_
  refine lv_iload_n hx hb dL_holds_4 rfl (lv_at hl 2 rfl) ?_
  refine kx_callVH (wc := [(h0, .inr (10, [.ref r1, .int 0, .int (-1), .ref r2, .ref r4, .ref r6, .int (-2), .ref r7, .ref r9])), (r2, .inr (0, [.ref r3, .int 0, .int 0]))]) (wr := [(o0, .inl (cy 2, 1, .inr (.inl (fun _ => 0))))]) (As := [.int p0, .int p1]) (rest := [.int 0, .ref o0]) (c_X11_holds l G cy sa hlst h0 r1 r2 r4 r6 r7 r9 r3 p0 p1) m_X11_holds u_1149 hx hb hml hown hU hl.1 hK hP hD hS hA dL_holds_5 [0, 1] [2] rfl rfl rfl rfl rfl rfl (Nat.le_of_ble_eq_true rfl) (ci := 10) rfl rfl rfl hZ (fun E9 ce9 q9 H locs hpx hP hD hS hce hcv hcl => ?_) (fun v9 w9 H locs hw hP hD hS => ?_)
  · rcases hpx with rfl
    refine vx_catch hown [] (⟨0, 17, 20, 22⟩ : ExceptionTableEntry) [(⟨0, 17, 24, 13⟩ : ExceptionTableEntry)] (by rw [htab]; rfl) (fun z9 h9 => by cases h9) (by decide) (by decide) (hU _ u_1073) (va_Nw.use rfl (hZ.2.2.2.1 (.castable eIO eIO) (by decide +kernel))) hce hcv hcl ?_
    refine W.eq (g2 := F0 m 20 ls [.ref q9]) rfl ?_
    refine W.widen (k := 1) (n := 6) (Nat.le_of_ble_eq_true rfl) (Nat.le_of_ble_eq_true rfl) ?_
    have hP : va_P G vwCl [(o0, .inl (cy 2, 1, .inr (.inl (fun _ => 0))))] H := hP
    have hD : va_D A [(o0, .inl (cy 2, 1, .inr (.inl (fun _ => 0))))] := hD
    refine lv_astore (lv' := [(4, .ref q9), (0, .ref h0), (1, .int p0), (2, .int p1), (3, .ref o0)]) hx hb dL_holds_20 hl (by decide) rfl (fun ls hl => ?_)
    refine lv_iconst (v := 1) hx hb dL_holds_22 (by decide) ?_
    exact vx_ret (kt_iret hx hb hr hlocks hP hD hS dL_holds_23 [0] rfl rfl rfl rfl ⟨rfl, rfl⟩)
  · exact hw.elim
set_option maxHeartbeats 4000000 in
set_option maxRecDepth 100000 in
theorem c_L_often (l : Launch) (G : va_G) (cy : Nat → ClassId) (sa : Nat → Nat) (hlst : l.stackTraces = false) (h0 : Nat) (r1 : Nat) (r2 : Nat) (r4 : Nat) (r6 : Nat) (r7 : Nat) (r9 : Nat) (r3 : Nat) (o0 : Nat) (p0 : Int32) : Kw l G cy sa yL_often cL_often 4 (some .int) [(0, 9, 12, 22)] ({ frames := 18, cells := 1, slots := 6, locals := 600 } : Room) [.ref h0, .int p0, .ref o0] [(h0, .inr (10, [.ref r1, .int 0, .int (-1), .ref r2, .ref r4, .ref r6, .int (-2), .ref r7, .ref r9])), (r2, .inr (0, [.ref r3, .int 0, .int 0])), (o0, .inl (cy 2, 1, .inr (.inl (fun _ => 0))))] (fun (v : Option Value) (w1 : va_W) => v = some (.int 1) ∧ w1 = [(o0, .inl (cy 2, 1, .inr (.inl (fun _ => 0))))]) := by
  refine kw_ofW (by decide) (Nat.le_of_ble_eq_true rfl) ?_
  intro p e s m below meth c A ls hx hb hr hU hown hlocks hml hin hP hK hD hA hS hl hZ htab
  have hown : s.vm.findClass RL = some m.cls := hown
  have hl : lv_has ls 4 [(0, .ref h0), (1, .int p0), (2, .ref o0)] := hl
  refine lv_aload_n hx hb dL_often_0 rfl (lv_at hl 2 rfl) ?_
  refine lv_iconst (v := 0) hx hb dL_often_1 (by decide) ?_
  refine lv_aload_n hx hb dL_often_2 rfl (lv_at hl 0 rfl) ?_
  refine lv_iload_n hx hb dL_often_3 rfl (lv_at hl 1 rfl) ?_
  refine kx_callVH (wc := [(h0, .inr (10, [.ref r1, .int 0, .int (-1), .ref r2, .ref r4, .ref r6, .int (-2), .ref r7, .ref r9])), (r2, .inr (0, [.ref r3, .int 0, .int 0]))]) (wr := [(o0, .inl (cy 2, 1, .inr (.inl (fun _ => 0))))]) (As := [.int p0]) (rest := [.int 0, .ref o0]) (c_X11_often l G cy sa hlst h0 r1 r2 r4 r6 r7 r9 r3 p0) m_X11_often u_1160 hx hb hml hown hU hl.1 hK hP hD hS hA dL_often_4 [0, 1] [2] rfl rfl rfl rfl rfl rfl (Nat.le_of_ble_eq_true rfl) (ci := 10) rfl rfl rfl hZ (fun E9 ce9 q9 H locs hpx hP hD hS hce hcv hcl => ?_) (fun v9 w9 H locs hw hP hD hS => ?_)
  · rcases hpx with rfl
    refine vx_catch hown [] (⟨0, 9, 12, 22⟩ : ExceptionTableEntry) [] (by rw [htab]; rfl) (fun z9 h9 => by cases h9) (by decide) (by decide) (hU _ u_1073) (va_Nw.use rfl (hZ.2.2.2.1 (.castable eIO eIO) (by decide +kernel))) hce hcv hcl ?_
    refine W.eq (g2 := F0 m 12 ls [.ref q9]) rfl ?_
    refine W.widen (k := 1) (n := 6) (Nat.le_of_ble_eq_true rfl) (Nat.le_of_ble_eq_true rfl) ?_
    have hP : va_P G vwCl [(o0, .inl (cy 2, 1, .inr (.inl (fun _ => 0))))] H := hP
    have hD : va_D A [(o0, .inl (cy 2, 1, .inr (.inl (fun _ => 0))))] := hD
    refine lv_astore_n (lv' := [(3, .ref q9), (0, .ref h0), (1, .int p0), (2, .ref o0)]) hx hb dL_often_12 rfl hl (by decide) rfl (fun ls hl => ?_)
    refine lv_iconst (v := 1) hx hb dL_often_13 (by decide) ?_
    exact vx_ret (kt_iret hx hb hr hlocks hP hD hS dL_often_14 [0] rfl rfl rfl rfl ⟨rfl, rfl⟩)
  · exact hw.elim
set_option maxHeartbeats 4000000 in
set_option maxRecDepth 100000 in
theorem c_L_measure (l : Launch) (G : va_G) (cy : Nat → ClassId) (sa : Nat → Nat) (hlst : l.stackTraces = false) (h0 : Nat) (r1 : Nat) (r2 : Nat) (r4 : Nat) (r6 : Nat) (r7 : Nat) (r9 : Nat) (r3 : Nat) (o0 : Nat) (p0 : Int32) (p1 : Int32) : Kw l G cy sa yL_measure cL_measure 5 (some .int) [(0, 10, 13, 22), (0, 10, 17, 24)] ({ frames := 18, cells := 1, slots := 6, locals := 600 } : Room) [.ref h0, .int p0, .int p1, .ref o0] [(h0, .inr (10, [.ref r1, .int 0, .int (-1), .ref r2, .ref r4, .ref r6, .int (-2), .ref r7, .ref r9])), (r2, .inr (0, [.ref r3, .int 0, .int 0])), (o0, .inl (cy 2, 1, .inr (.inl (fun _ => 0))))] (fun (v : Option Value) (w1 : va_W) => v = some (.int 1) ∧ w1 = [(o0, .inl (cy 2, 1, .inr (.inl (fun _ => 0))))]) := by
  refine kw_ofW (by decide) (Nat.le_of_ble_eq_true rfl) ?_
  intro p e s m below meth c A ls hx hb hr hU hown hlocks hml hin hP hK hD hA hS hl hZ htab
  have hown : s.vm.findClass RL = some m.cls := hown
  have hl : lv_has ls 5 [(0, .ref h0), (1, .int p0), (2, .int p1), (3, .ref o0)] := hl
  refine lv_aload_n hx hb dL_measure_0 rfl (lv_at hl 3 rfl) ?_
  refine lv_iconst (v := 0) hx hb dL_measure_1 (by decide) ?_
  refine lv_aload_n hx hb dL_measure_2 rfl (lv_at hl 0 rfl) ?_
  refine lv_iload_n hx hb dL_measure_3 rfl (lv_at hl 1 rfl) ?_
  refine lv_iload_n hx hb dL_measure_4 rfl (lv_at hl 2 rfl) ?_
  refine kx_callVH (wc := [(h0, .inr (10, [.ref r1, .int 0, .int (-1), .ref r2, .ref r4, .ref r6, .int (-2), .ref r7, .ref r9])), (r2, .inr (0, [.ref r3, .int 0, .int 0]))]) (wr := [(o0, .inl (cy 2, 1, .inr (.inl (fun _ => 0))))]) (As := [.int p0, .int p1]) (rest := [.int 0, .ref o0]) (c_X11_measure l G cy sa hlst h0 r1 r2 r4 r6 r7 r9 r3 p0 p1) m_X11_measure u_1167 hx hb hml hown hU hl.1 hK hP hD hS hA dL_measure_5 [0, 1] [2] rfl rfl rfl rfl rfl rfl (Nat.le_of_ble_eq_true rfl) (ci := 10) rfl rfl rfl hZ (fun E9 ce9 q9 H locs hpx hP hD hS hce hcv hcl => ?_) (fun v9 w9 H locs hw hP hD hS => ?_)
  · rcases hpx with rfl
    refine vx_catch hown [] (⟨0, 10, 13, 22⟩ : ExceptionTableEntry) [(⟨0, 10, 17, 24⟩ : ExceptionTableEntry)] (by rw [htab]; rfl) (fun z9 h9 => by cases h9) (by decide) (by decide) (hU _ u_1073) (va_Nw.use rfl (hZ.2.2.2.1 (.castable eIO eIO) (by decide +kernel))) hce hcv hcl ?_
    refine W.eq (g2 := F0 m 13 ls [.ref q9]) rfl ?_
    refine W.widen (k := 1) (n := 6) (Nat.le_of_ble_eq_true rfl) (Nat.le_of_ble_eq_true rfl) ?_
    have hP : va_P G vwCl [(o0, .inl (cy 2, 1, .inr (.inl (fun _ => 0))))] H := hP
    have hD : va_D A [(o0, .inl (cy 2, 1, .inr (.inl (fun _ => 0))))] := hD
    refine lv_astore (lv' := [(4, .ref q9), (0, .ref h0), (1, .int p0), (2, .int p1), (3, .ref o0)]) hx hb dL_measure_13 hl (by decide) rfl (fun ls hl => ?_)
    refine lv_iconst (v := 1) hx hb dL_measure_15 (by decide) ?_
    exact vx_ret (kt_iret hx hb hr hlocks hP hD hS dL_measure_16 [0] rfl rfl rfl rfl ⟨rfl, rfl⟩)
  · exact hw.elim
set_option maxHeartbeats 4000000 in
set_option maxRecDepth 100000 in
theorem c_L_tree (l : Launch) (G : va_G) (cy : Nat → ClassId) (sa : Nat → Nat) (hlst : l.stackTraces = false) (h0 : Nat) (r1 : Nat) (r2 : Nat) (r4 : Nat) (r6 : Nat) (r7 : Nat) (r9 : Nat) (r3 : Nat) (o0 : Nat) (p0 : Int32) : Kw l G cy sa yL_tree cL_tree 4 (some .int) [(0, 8, 11, 22)] ({ frames := 18, cells := 1, slots := 6, locals := 600 } : Room) [.ref h0, .int p0, .ref o0] [(h0, .inr (10, [.ref r1, .int 0, .int (-1), .ref r2, .ref r4, .ref r6, .int (-2), .ref r7, .ref r9])), (r2, .inr (0, [.ref r3, .int 0, .int 0])), (o0, .inl (cy 2, 1, .inr (.inl (fun _ => 0))))] (fun (v : Option Value) (w1 : va_W) => v = some (.int 1) ∧ w1 = [(o0, .inl (cy 2, 1, .inr (.inl (fun _ => 0))))]) := by
  refine kw_ofW (by decide) (Nat.le_of_ble_eq_true rfl) ?_
  intro p e s m below meth c A ls hx hb hr hU hown hlocks hml hin hP hK hD hA hS hl hZ htab
  have hown : s.vm.findClass RL = some m.cls := hown
  have hl : lv_has ls 4 [(0, .ref h0), (1, .int p0), (2, .ref o0)] := hl
  refine lv_aload_n hx hb dL_tree_0 rfl (lv_at hl 2 rfl) ?_
  refine lv_iconst (v := 0) hx hb dL_tree_1 (by decide) ?_
  refine lv_aload_n hx hb dL_tree_2 rfl (lv_at hl 0 rfl) ?_
  refine lv_iload_n hx hb dL_tree_3 rfl (lv_at hl 1 rfl) ?_
  refine kx_callVH (wc := [(h0, .inr (10, [.ref r1, .int 0, .int (-1), .ref r2, .ref r4, .ref r6, .int (-2), .ref r7, .ref r9])), (r2, .inr (0, [.ref r3, .int 0, .int 0]))]) (wr := [(o0, .inl (cy 2, 1, .inr (.inl (fun _ => 0))))]) (As := [.int p0]) (rest := [.int 0, .ref o0]) (c_X11_tree l G cy sa hlst h0 r1 r2 r4 r6 r7 r9 r3 p0) m_X11_tree u_1195 hx hb hml hown hU hl.1 hK hP hD hS hA dL_tree_4 [0, 1] [2] rfl rfl rfl rfl rfl rfl (Nat.le_of_ble_eq_true rfl) (ci := 10) rfl rfl rfl hZ (fun E9 ce9 q9 H locs hpx hP hD hS hce hcv hcl => ?_) (fun v9 w9 H locs hw hP hD hS => ?_)
  · rcases hpx with rfl
    refine vx_catch hown [] (⟨0, 8, 11, 22⟩ : ExceptionTableEntry) [] (by rw [htab]; rfl) (fun z9 h9 => by cases h9) (by decide) (by decide) (hU _ u_1073) (va_Nw.use rfl (hZ.2.2.2.1 (.castable eIO eIO) (by decide +kernel))) hce hcv hcl ?_
    refine W.eq (g2 := F0 m 11 ls [.ref q9]) rfl ?_
    refine W.widen (k := 1) (n := 6) (Nat.le_of_ble_eq_true rfl) (Nat.le_of_ble_eq_true rfl) ?_
    have hP : va_P G vwCl [(o0, .inl (cy 2, 1, .inr (.inl (fun _ => 0))))] H := hP
    have hD : va_D A [(o0, .inl (cy 2, 1, .inr (.inl (fun _ => 0))))] := hD
    refine lv_astore_n (lv' := [(3, .ref q9), (0, .ref h0), (1, .int p0), (2, .ref o0)]) hx hb dL_tree_11 rfl hl (by decide) rfl (fun ls hl => ?_)
    refine lv_iconst (v := 1) hx hb dL_tree_12 (by decide) ?_
    exact vx_ret (kt_iret hx hb hr hlocks hP hD hS dL_tree_13 [0] rfl rfl rfl rfl ⟨rfl, rfl⟩)
  · exact hw.elim
set_option maxHeartbeats 4000000 in
set_option maxRecDepth 100000 in
theorem c_L_needs (l : Launch) (G : va_G) (cy : Nat → ClassId) (sa : Nat → Nat) (hlst : l.stackTraces = false) (h0 : Nat) (r1 : Nat) (r2 : Nat) (r4 : Nat) (r6 : Nat) (r7 : Nat) (r9 : Nat) (r3 : Nat) (o0 : Nat) (p0 : Int32) (p1 : Int32) : Kw l G cy sa yL_needs cL_needs 5 (some .int) [(0, 17, 20, 22)] ({ frames := 18, cells := 1, slots := 6, locals := 600 } : Room) [.ref h0, .int p0, .int p1, .ref o0] [(h0, .inr (10, [.ref r1, .int 0, .int (-1), .ref r2, .ref r4, .ref r6, .int (-2), .ref r7, .ref r9])), (r2, .inr (0, [.ref r3, .int 0, .int 0])), (o0, .inl (cy 2, 1, .inr (.inl (fun _ => 0))))] (fun (v : Option Value) (w1 : va_W) => v = some (.int 1) ∧ w1 = [(o0, .inl (cy 2, 1, .inr (.inl (fun _ => 0))))]) := by
  refine kw_ofW (by decide) (Nat.le_of_ble_eq_true rfl) ?_
  intro p e s m below meth c A ls hx hb hr hU hown hlocks hml hin hP hK hD hA hS hl hZ htab
  have hown : s.vm.findClass RL = some m.cls := hown
  have hl : lv_has ls 5 [(0, .ref h0), (1, .int p0), (2, .int p1), (3, .ref o0)] := hl
  refine lv_aload_n hx hb dL_needs_0 rfl (lv_at hl 3 rfl) ?_
  refine lv_iconst (v := 0) hx hb dL_needs_1 (by decide) ?_
  refine lv_aload_n hx hb dL_needs_2 rfl (lv_at hl 0 rfl) ?_
  refine lv_iload_n hx hb dL_needs_3 rfl (lv_at hl 1 rfl) ?_
  refine lv_iload_n hx hb dL_needs_4 rfl (lv_at hl 2 rfl) ?_
  refine kx_callVH (wc := [(h0, .inr (10, [.ref r1, .int 0, .int (-1), .ref r2, .ref r4, .ref r6, .int (-2), .ref r7, .ref r9])), (r2, .inr (0, [.ref r3, .int 0, .int 0]))]) (wr := [(o0, .inl (cy 2, 1, .inr (.inl (fun _ => 0))))]) (As := [.int p0, .int p1]) (rest := [.int 0, .ref o0]) (c_X11_needs l G cy sa hlst h0 r1 r2 r4 r6 r7 r9 r3 p0 p1) m_X11_needs u_1202 hx hb hml hown hU hl.1 hK hP hD hS hA dL_needs_5 [0, 1] [2] rfl rfl rfl rfl rfl rfl (Nat.le_of_ble_eq_true rfl) (ci := 10) rfl rfl rfl hZ (fun E9 ce9 q9 H locs hpx hP hD hS hce hcv hcl => ?_) (fun v9 w9 H locs hw hP hD hS => ?_)
  · rcases hpx with rfl
    refine vx_catch hown [] (⟨0, 17, 20, 22⟩ : ExceptionTableEntry) [] (by rw [htab]; rfl) (fun z9 h9 => by cases h9) (by decide) (by decide) (hU _ u_1073) (va_Nw.use rfl (hZ.2.2.2.1 (.castable eIO eIO) (by decide +kernel))) hce hcv hcl ?_
    refine W.eq (g2 := F0 m 20 ls [.ref q9]) rfl ?_
    refine W.widen (k := 1) (n := 6) (Nat.le_of_ble_eq_true rfl) (Nat.le_of_ble_eq_true rfl) ?_
    have hP : va_P G vwCl [(o0, .inl (cy 2, 1, .inr (.inl (fun _ => 0))))] H := hP
    have hD : va_D A [(o0, .inl (cy 2, 1, .inr (.inl (fun _ => 0))))] := hD
    refine lv_astore (lv' := [(4, .ref q9), (0, .ref h0), (1, .int p0), (2, .int p1), (3, .ref o0)]) hx hb dL_needs_20 hl (by decide) rfl (fun ls hl => ?_)
    refine lv_iconst (v := 1) hx hb dL_needs_22 (by decide) ?_
    exact vx_ret (kt_iret hx hb hr hlocks hP hD hS dL_needs_23 [0] rfl rfl rfl rfl ⟨rfl, rfl⟩)
  · exact hw.elim
set_option maxHeartbeats 4000000 in
set_option maxRecDepth 100000 in
theorem c_L_uses (l : Launch) (G : va_G) (cy : Nat → ClassId) (sa : Nat → Nat) (hlst : l.stackTraces = false) (h0 : Nat) (r1 : Nat) (r2 : Nat) (r4 : Nat) (r6 : Nat) (r7 : Nat) (r9 : Nat) (r3 : Nat) (o0 : Nat) (p0 : Int32) : Kw l G cy sa yL_uses cL_uses 4 (some .int) [(0, 9, 12, 22)] ({ frames := 18, cells := 1, slots := 6, locals := 600 } : Room) [.ref h0, .int p0, .ref o0] [(h0, .inr (10, [.ref r1, .int 0, .int (-1), .ref r2, .ref r4, .ref r6, .int (-2), .ref r7, .ref r9])), (r2, .inr (0, [.ref r3, .int 0, .int 0])), (o0, .inl (cy 2, 1, .inr (.inl (fun _ => 0))))] (fun (v : Option Value) (w1 : va_W) => v = some (.int 1) ∧ w1 = [(o0, .inl (cy 2, 1, .inr (.inl (fun _ => 0))))]) := by
  refine kw_ofW (by decide) (Nat.le_of_ble_eq_true rfl) ?_
  intro p e s m below meth c A ls hx hb hr hU hown hlocks hml hin hP hK hD hA hS hl hZ htab
  have hown : s.vm.findClass RL = some m.cls := hown
  have hl : lv_has ls 4 [(0, .ref h0), (1, .int p0), (2, .ref o0)] := hl
  refine lv_aload_n hx hb dL_uses_0 rfl (lv_at hl 2 rfl) ?_
  refine lv_iconst (v := 0) hx hb dL_uses_1 (by decide) ?_
  refine lv_aload_n hx hb dL_uses_2 rfl (lv_at hl 0 rfl) ?_
  refine lv_iload_n hx hb dL_uses_3 rfl (lv_at hl 1 rfl) ?_
  refine kx_callVH (wc := [(h0, .inr (10, [.ref r1, .int 0, .int (-1), .ref r2, .ref r4, .ref r6, .int (-2), .ref r7, .ref r9])), (r2, .inr (0, [.ref r3, .int 0, .int 0]))]) (wr := [(o0, .inl (cy 2, 1, .inr (.inl (fun _ => 0))))]) (As := [.int p0]) (rest := [.int 0, .ref o0]) (c_X11_uses l G cy sa hlst h0 r1 r2 r4 r6 r7 r9 r3 p0) m_X11_uses u_1209 hx hb hml hown hU hl.1 hK hP hD hS hA dL_uses_4 [0, 1] [2] rfl rfl rfl rfl rfl rfl (Nat.le_of_ble_eq_true rfl) (ci := 10) rfl rfl rfl hZ (fun E9 ce9 q9 H locs hpx hP hD hS hce hcv hcl => ?_) (fun v9 w9 H locs hw hP hD hS => ?_)
  · rcases hpx with rfl
    refine vx_catch hown [] (⟨0, 9, 12, 22⟩ : ExceptionTableEntry) [] (by rw [htab]; rfl) (fun z9 h9 => by cases h9) (by decide) (by decide) (hU _ u_1073) (va_Nw.use rfl (hZ.2.2.2.1 (.castable eIO eIO) (by decide +kernel))) hce hcv hcl ?_
    refine W.eq (g2 := F0 m 12 ls [.ref q9]) rfl ?_
    refine W.widen (k := 1) (n := 6) (Nat.le_of_ble_eq_true rfl) (Nat.le_of_ble_eq_true rfl) ?_
    have hP : va_P G vwCl [(o0, .inl (cy 2, 1, .inr (.inl (fun _ => 0))))] H := hP
    have hD : va_D A [(o0, .inl (cy 2, 1, .inr (.inl (fun _ => 0))))] := hD
    refine lv_astore_n (lv' := [(3, .ref q9), (0, .ref h0), (1, .int p0), (2, .ref o0)]) hx hb dL_uses_12 rfl hl (by decide) rfl (fun ls hl => ?_)
    refine lv_iconst (v := 1) hx hb dL_uses_13 (by decide) ?_
    exact vx_ret (kt_iret hx hb hr hlocks hP hD hS dL_uses_14 [0] rfl rfl rfl rfl ⟨rfl, rfl⟩)
  · exact hw.elim
set_option maxHeartbeats 4000000 in
set_option maxRecDepth 100000 in
theorem c_L_same (l : Launch) (G : va_G) (cy : Nat → ClassId) (sa : Nat → Nat) (hlst : l.stackTraces = false) (h0 : Nat) (r1 : Nat) (r2 : Nat) (r4 : Nat) (r6 : Nat) (r7 : Nat) (r9 : Nat) (r3 : Nat) (o0 : Nat) (p0 : Int32) : Kw l G cy sa yL_same cL_same 4 (some .int) [(0, 9, 12, 22)] ({ frames := 18, cells := 1, slots := 6, locals := 600 } : Room) [.ref h0, .int p0, .ref o0] [(h0, .inr (10, [.ref r1, .int 0, .int (-1), .ref r2, .ref r4, .ref r6, .int (-2), .ref r7, .ref r9])), (r2, .inr (0, [.ref r3, .int 0, .int 0])), (o0, .inl (cy 2, 1, .inr (.inl (fun _ => 0))))] (fun (v : Option Value) (w1 : va_W) => v = some (.int 1) ∧ w1 = [(o0, .inl (cy 2, 1, .inr (.inl (fun _ => 0))))]) := by
  refine kw_ofW (by decide) (Nat.le_of_ble_eq_true rfl) ?_
  intro p e s m below meth c A ls hx hb hr hU hown hlocks hml hin hP hK hD hA hS hl hZ htab
  have hown : s.vm.findClass RL = some m.cls := hown
  have hl : lv_has ls 4 [(0, .ref h0), (1, .int p0), (2, .ref o0)] := hl
  refine lv_aload_n hx hb dL_same_0 rfl (lv_at hl 2 rfl) ?_
  refine lv_iconst (v := 0) hx hb dL_same_1 (by decide) ?_
  refine lv_aload_n hx hb dL_same_2 rfl (lv_at hl 0 rfl) ?_
  refine lv_iload_n hx hb dL_same_3 rfl (lv_at hl 1 rfl) ?_
  refine kx_callVH (wc := [(h0, .inr (10, [.ref r1, .int 0, .int (-1), .ref r2, .ref r4, .ref r6, .int (-2), .ref r7, .ref r9])), (r2, .inr (0, [.ref r3, .int 0, .int 0]))]) (wr := [(o0, .inl (cy 2, 1, .inr (.inl (fun _ => 0))))]) (As := [.int p0]) (rest := [.int 0, .ref o0]) (c_X11_same l G cy sa hlst h0 r1 r2 r4 r6 r7 r9 r3 p0) m_X11_same u_1217 hx hb hml hown hU hl.1 hK hP hD hS hA dL_same_4 [0, 1] [2] rfl rfl rfl rfl rfl rfl (Nat.le_of_ble_eq_true rfl) (ci := 10) rfl rfl rfl hZ (fun E9 ce9 q9 H locs hpx hP hD hS hce hcv hcl => ?_) (fun v9 w9 H locs hw hP hD hS => ?_)
  · rcases hpx with rfl
    refine vx_catch hown [] (⟨0, 9, 12, 22⟩ : ExceptionTableEntry) [] (by rw [htab]; rfl) (fun z9 h9 => by cases h9) (by decide) (by decide) (hU _ u_1073) (va_Nw.use rfl (hZ.2.2.2.1 (.castable eIO eIO) (by decide +kernel))) hce hcv hcl ?_
    refine W.eq (g2 := F0 m 12 ls [.ref q9]) rfl ?_
    refine W.widen (k := 1) (n := 6) (Nat.le_of_ble_eq_true rfl) (Nat.le_of_ble_eq_true rfl) ?_
    have hP : va_P G vwCl [(o0, .inl (cy 2, 1, .inr (.inl (fun _ => 0))))] H := hP
    have hD : va_D A [(o0, .inl (cy 2, 1, .inr (.inl (fun _ => 0))))] := hD
    refine lv_astore_n (lv' := [(3, .ref q9), (0, .ref h0), (1, .int p0), (2, .ref o0)]) hx hb dL_same_12 rfl hl (by decide) rfl (fun ls hl => ?_)
    refine lv_iconst (v := 1) hx hb dL_same_13 (by decide) ?_
    exact vx_ret (kt_iret hx hb hr hlocks hP hD hS dL_same_14 [0] rfl rfl rfl rfl ⟨rfl, rfl⟩)
  · exact hw.elim
set_option maxHeartbeats 4000000 in
set_option maxRecDepth 100000 in
theorem c_L_gives (l : Launch) (G : va_G) (cy : Nat → ClassId) (sa : Nat → Nat) (hlst : l.stackTraces = false) (h0 : Nat) (r1 : Nat) (r2 : Nat) (r4 : Nat) (r6 : Nat) (r7 : Nat) (r9 : Nat) (r3 : Nat) (o0 : Nat) (p0 : Int32) (p1 : Int32) : Kw l G cy sa yL_gives cL_gives 5 (some .int) [(0, 17, 20, 22)] ({ frames := 18, cells := 1, slots := 6, locals := 600 } : Room) [.ref h0, .int p0, .int p1, .ref o0] [(h0, .inr (10, [.ref r1, .int 0, .int (-1), .ref r2, .ref r4, .ref r6, .int (-2), .ref r7, .ref r9])), (r2, .inr (0, [.ref r3, .int 0, .int 0])), (o0, .inl (cy 2, 1, .inr (.inl (fun _ => 0))))] (fun (v : Option Value) (w1 : va_W) => v = some (.int 1) ∧ w1 = [(o0, .inl (cy 2, 1, .inr (.inl (fun _ => 0))))]) := by
  refine kw_ofW (by decide) (Nat.le_of_ble_eq_true rfl) ?_
  intro p e s m below meth c A ls hx hb hr hU hown hlocks hml hin hP hK hD hA hS hl hZ htab
  have hown : s.vm.findClass RL = some m.cls := hown
  have hl : lv_has ls 5 [(0, .ref h0), (1, .int p0), (2, .int p1), (3, .ref o0)] := hl
  refine lv_aload_n hx hb dL_gives_0 rfl (lv_at hl 3 rfl) ?_
  refine lv_iconst (v := 0) hx hb dL_gives_1 (by decide) ?_
  refine lv_aload_n hx hb dL_gives_2 rfl (lv_at hl 0 rfl) ?_
  refine lv_iload_n hx hb dL_gives_3 rfl (lv_at hl 1 rfl) ?_
  refine lv_iload_n hx hb dL_gives_4 rfl (lv_at hl 2 rfl) ?_
  refine kx_callVH (wc := [(h0, .inr (10, [.ref r1, .int 0, .int (-1), .ref r2, .ref r4, .ref r6, .int (-2), .ref r7, .ref r9])), (r2, .inr (0, [.ref r3, .int 0, .int 0]))]) (wr := [(o0, .inl (cy 2, 1, .inr (.inl (fun _ => 0))))]) (As := [.int p0, .int p1]) (rest := [.int 0, .ref o0]) (c_X11_gives l G cy sa hlst h0 r1 r2 r4 r6 r7 r9 r3 p0 p1) m_X11_gives u_1228 hx hb hml hown hU hl.1 hK hP hD hS hA dL_gives_5 [0, 1] [2] rfl rfl rfl rfl rfl rfl (Nat.le_of_ble_eq_true rfl) (ci := 10) rfl rfl rfl hZ (fun E9 ce9 q9 H locs hpx hP hD hS hce hcv hcl => ?_) (fun v9 w9 H locs hw hP hD hS => ?_)
  · rcases hpx with rfl
    refine vx_catch hown [] (⟨0, 17, 20, 22⟩ : ExceptionTableEntry) [] (by rw [htab]; rfl) (fun z9 h9 => by cases h9) (by decide) (by decide) (hU _ u_1073) (va_Nw.use rfl (hZ.2.2.2.1 (.castable eIO eIO) (by decide +kernel))) hce hcv hcl ?_
    refine W.eq (g2 := F0 m 20 ls [.ref q9]) rfl ?_
    refine W.widen (k := 1) (n := 6) (Nat.le_of_ble_eq_true rfl) (Nat.le_of_ble_eq_true rfl) ?_
    have hP : va_P G vwCl [(o0, .inl (cy 2, 1, .inr (.inl (fun _ => 0))))] H := hP
    have hD : va_D A [(o0, .inl (cy 2, 1, .inr (.inl (fun _ => 0))))] := hD
    refine lv_astore (lv' := [(4, .ref q9), (0, .ref h0), (1, .int p0), (2, .int p1), (3, .ref o0)]) hx hb dL_gives_20 hl (by decide) rfl (fun ls hl => ?_)
    refine lv_iconst (v := 1) hx hb dL_gives_22 (by decide) ?_
    exact vx_ret (kt_iret hx hb hr hlocks hP hD hS dL_gives_23 [0] rfl rfl rfl rfl ⟨rfl, rfl⟩)
  · exact hw.elim
set_option maxHeartbeats 4000000 in
set_option maxRecDepth 100000 in
theorem c_L_trim (l : Launch) (G : va_G) (cy : Nat → ClassId) (sa : Nat → Nat) (hlst : l.stackTraces = false) (h0 : Nat) (r1 : Nat) (r2 : Nat) (r4 : Nat) (r6 : Nat) (r7 : Nat) (r9 : Nat) (r3 : Nat) (o0 : Nat) (p0 : Int32) : Kw l G cy sa yL_trim cL_trim 4 (some .int) [(0, 9, 12, 22)] ({ frames := 18, cells := 1, slots := 6, locals := 600 } : Room) [.ref h0, .int p0, .ref o0] [(h0, .inr (10, [.ref r1, .int 0, .int (-1), .ref r2, .ref r4, .ref r6, .int (-2), .ref r7, .ref r9])), (r2, .inr (0, [.ref r3, .int 0, .int 0])), (o0, .inl (cy 2, 1, .inr (.inl (fun _ => 0))))] (fun (v : Option Value) (w1 : va_W) => v = some (.int 1) ∧ w1 = [(o0, .inl (cy 2, 1, .inr (.inl (fun _ => 0))))]) := by
  refine kw_ofW (by decide) (Nat.le_of_ble_eq_true rfl) ?_
  intro p e s m below meth c A ls hx hb hr hU hown hlocks hml hin hP hK hD hA hS hl hZ htab
  have hown : s.vm.findClass RL = some m.cls := hown
  have hl : lv_has ls 4 [(0, .ref h0), (1, .int p0), (2, .ref o0)] := hl
  refine lv_aload_n hx hb dL_trim_0 rfl (lv_at hl 2 rfl) ?_
  refine lv_iconst (v := 0) hx hb dL_trim_1 (by decide) ?_
  refine lv_aload_n hx hb dL_trim_2 rfl (lv_at hl 0 rfl) ?_
  refine lv_iload_n hx hb dL_trim_3 rfl (lv_at hl 1 rfl) ?_
  refine kx_callVH (wc := [(h0, .inr (10, [.ref r1, .int 0, .int (-1), .ref r2, .ref r4, .ref r6, .int (-2), .ref r7, .ref r9])), (r2, .inr (0, [.ref r3, .int 0, .int 0]))]) (wr := [(o0, .inl (cy 2, 1, .inr (.inl (fun _ => 0))))]) (As := [.int p0]) (rest := [.int 0, .ref o0]) (c_X11_trim l G cy sa hlst h0 r1 r2 r4 r6 r7 r9 r3 p0) m_X11_trim u_1319 hx hb hml hown hU hl.1 hK hP hD hS hA dL_trim_4 [0, 1] [2] rfl rfl rfl rfl rfl rfl (Nat.le_of_ble_eq_true rfl) (ci := 10) rfl rfl rfl hZ (fun E9 ce9 q9 H locs hpx hP hD hS hce hcv hcl => ?_) (fun v9 w9 H locs hw hP hD hS => ?_)
  · rcases hpx with rfl
    refine vx_catch hown [] (⟨0, 9, 12, 22⟩ : ExceptionTableEntry) [] (by rw [htab]; rfl) (fun z9 h9 => by cases h9) (by decide) (by decide) (hU _ u_1073) (va_Nw.use rfl (hZ.2.2.2.1 (.castable eIO eIO) (by decide +kernel))) hce hcv hcl ?_
    refine W.eq (g2 := F0 m 12 ls [.ref q9]) rfl ?_
    refine W.widen (k := 1) (n := 6) (Nat.le_of_ble_eq_true rfl) (Nat.le_of_ble_eq_true rfl) ?_
    have hP : va_P G vwCl [(o0, .inl (cy 2, 1, .inr (.inl (fun _ => 0))))] H := hP
    have hD : va_D A [(o0, .inl (cy 2, 1, .inr (.inl (fun _ => 0))))] := hD
    refine lv_astore_n (lv' := [(3, .ref q9), (0, .ref h0), (1, .int p0), (2, .ref o0)]) hx hb dL_trim_12 rfl hl (by decide) rfl (fun ls hl => ?_)
    refine lv_iconst (v := 1) hx hb dL_trim_13 (by decide) ?_
    exact vx_ret (kt_iret hx hb hr hlocks hP hD hS dL_trim_14 [0] rfl rfl rfl rfl ⟨rfl, rfl⟩)
  · exact hw.elim
set_option maxHeartbeats 4000000 in
set_option maxRecDepth 100000 in
theorem c_L_translate (l : Launch) (G : va_G) (cy : Nat → ClassId) (sa : Nat → Nat) (hlst : l.stackTraces = false) (h0 : Nat) (r1 : Nat) (r2 : Nat) (r4 : Nat) (r6 : Nat) (r7 : Nat) (r9 : Nat) (r3 : Nat) (o0 : Nat) (p0 : Int32) : Kw l G cy sa yL_translate cL_translate 4 (some .int) [(0, 9, 12, 22), (0, 9, 15, 86)] ({ frames := 18, cells := 1, slots := 6, locals := 600 } : Room) [.ref h0, .int p0, .ref o0] [(h0, .inr (10, [.ref r1, .int 0, .int (-1), .ref r2, .ref r4, .ref r6, .int (-2), .ref r7, .ref r9])), (r2, .inr (0, [.ref r3, .int 0, .int 0])), (o0, .inl (cy 2, 1, .inr (.inl (fun _ => 0))))] (fun (v : Option Value) (w1 : va_W) => v = some (.int 1) ∧ w1 = [(o0, .inl (cy 2, 1, .inr (.inl (fun _ => 0))))]) := by
  refine kw_ofW (by decide) (Nat.le_of_ble_eq_true rfl) ?_
  intro p e s m below meth c A ls hx hb hr hU hown hlocks hml hin hP hK hD hA hS hl hZ htab
  have hown : s.vm.findClass RL = some m.cls := hown
  have hl : lv_has ls 4 [(0, .ref h0), (1, .int p0), (2, .ref o0)] := hl
  refine lv_aload_n hx hb dL_translate_0 rfl (lv_at hl 2 rfl) ?_
  refine lv_iconst (v := 0) hx hb dL_translate_1 (by decide) ?_
  refine lv_aload_n hx hb dL_translate_2 rfl (lv_at hl 0 rfl) ?_
  refine lv_iload_n hx hb dL_translate_3 rfl (lv_at hl 1 rfl) ?_
  refine kx_callVH (wc := [(h0, .inr (10, [.ref r1, .int 0, .int (-1), .ref r2, .ref r4, .ref r6, .int (-2), .ref r7, .ref r9])), (r2, .inr (0, [.ref r3, .int 0, .int 0]))]) (wr := [(o0, .inl (cy 2, 1, .inr (.inl (fun _ => 0))))]) (As := [.int p0]) (rest := [.int 0, .ref o0]) (c_X11_translate l G cy sa hlst h0 r1 r2 r4 r6 r7 r9 r3 p0) m_X11_translate u_1389 hx hb hml hown hU hl.1 hK hP hD hS hA dL_translate_4 [0, 1] [2] rfl rfl rfl rfl rfl rfl (Nat.le_of_ble_eq_true rfl) (ci := 10) rfl rfl rfl hZ (fun E9 ce9 q9 H locs hpx hP hD hS hce hcv hcl => ?_) (fun v9 w9 H locs hw hP hD hS => ?_)
  · rcases hpx with rfl
    refine vx_catch hown [] (⟨0, 9, 12, 22⟩ : ExceptionTableEntry) [(⟨0, 9, 15, 86⟩ : ExceptionTableEntry)] (by rw [htab]; rfl) (fun z9 h9 => by cases h9) (by decide) (by decide) (hU _ u_1073) (va_Nw.use rfl (hZ.2.2.2.1 (.castable eIO eIO) (by decide +kernel))) hce hcv hcl ?_
    refine W.eq (g2 := F0 m 12 ls [.ref q9]) rfl ?_
    refine W.widen (k := 1) (n := 6) (Nat.le_of_ble_eq_true rfl) (Nat.le_of_ble_eq_true rfl) ?_
    have hP : va_P G vwCl [(o0, .inl (cy 2, 1, .inr (.inl (fun _ => 0))))] H := hP
    have hD : va_D A [(o0, .inl (cy 2, 1, .inr (.inl (fun _ => 0))))] := hD
    refine lv_astore_n (lv' := [(3, .ref q9), (0, .ref h0), (1, .int p0), (2, .ref o0)]) hx hb dL_translate_12 rfl hl (by decide) rfl (fun ls hl => ?_)
    refine lv_iconst (v := 1) hx hb dL_translate_13 (by decide) ?_
    exact vx_ret (kt_iret hx hb hr hlocks hP hD hS dL_translate_14 [0] rfl rfl rfl rfl ⟨rfl, rfl⟩)
  · exact hw.elim
set_option maxHeartbeats 4000000 in
set_option maxRecDepth 100000 in
theorem c_L_translated (l : Launch) (G : va_G) (cy : Nat → ClassId) (sa : Nat → Nat) (hlst : l.stackTraces = false) (h0 : Nat) (r1 : Nat) (r2 : Nat) (r4 : Nat) (r6 : Nat) (r7 : Nat) (r9 : Nat) (r3 : Nat) (o0 : Nat) (p0 : Int32) : Kw l G cy sa yL_translated cL_translated 4 (some .int) [(0, 9, 12, 22), (0, 9, 15, 86)] ({ frames := 18, cells := 1, slots := 6, locals := 600 } : Room) [.ref h0, .int p0, .ref o0] [(h0, .inr (10, [.ref r1, .int 0, .int (-1), .ref r2, .ref r4, .ref r6, .int (-2), .ref r7, .ref r9])), (r2, .inr (0, [.ref r3, .int 0, .int 0])), (o0, .inl (cy 2, 1, .inr (.inl (fun _ => 0))))] (fun (v : Option Value) (w1 : va_W) => v = some (.int 1) ∧ w1 = [(o0, .inl (cy 2, 1, .inr (.inl (fun _ => 0))))]) := by
  refine kw_ofW (by decide) (Nat.le_of_ble_eq_true rfl) ?_
  intro p e s m below meth c A ls hx hb hr hU hown hlocks hml hin hP hK hD hA hS hl hZ htab
  have hown : s.vm.findClass RL = some m.cls := hown
  have hl : lv_has ls 4 [(0, .ref h0), (1, .int p0), (2, .ref o0)] := hl
  refine lv_aload_n hx hb dL_translated_0 rfl (lv_at hl 2 rfl) ?_
  refine lv_iconst (v := 0) hx hb dL_translated_1 (by decide) ?_
  refine lv_aload_n hx hb dL_translated_2 rfl (lv_at hl 0 rfl) ?_
  refine lv_iload_n hx hb dL_translated_3 rfl (lv_at hl 1 rfl) ?_
  refine kx_callVH (wc := [(h0, .inr (10, [.ref r1, .int 0, .int (-1), .ref r2, .ref r4, .ref r6, .int (-2), .ref r7, .ref r9])), (r2, .inr (0, [.ref r3, .int 0, .int 0]))]) (wr := [(o0, .inl (cy 2, 1, .inr (.inl (fun _ => 0))))]) (As := [.int p0]) (rest := [.int 0, .ref o0]) (c_X11_translated l G cy sa hlst h0 r1 r2 r4 r6 r7 r9 r3 p0) m_X11_translated u_1463 hx hb hml hown hU hl.1 hK hP hD hS hA dL_translated_4 [0, 1] [2] rfl rfl rfl rfl rfl rfl (Nat.le_of_ble_eq_true rfl) (ci := 10) rfl rfl rfl hZ (fun E9 ce9 q9 H locs hpx hP hD hS hce hcv hcl => ?_) (fun v9 w9 H locs hw hP hD hS => ?_)
  · rcases hpx with rfl
    refine vx_catch hown [] (⟨0, 9, 12, 22⟩ : ExceptionTableEntry) [(⟨0, 9, 15, 86⟩ : ExceptionTableEntry)] (by rw [htab]; rfl) (fun z9 h9 => by cases h9) (by decide) (by decide) (hU _ u_1073) (va_Nw.use rfl (hZ.2.2.2.1 (.castable eIO eIO) (by decide +kernel))) hce hcv hcl ?_
    refine W.eq (g2 := F0 m 12 ls [.ref q9]) rfl ?_
    refine W.widen (k := 1) (n := 6) (Nat.le_of_ble_eq_true rfl) (Nat.le_of_ble_eq_true rfl) ?_
    have hP : va_P G vwCl [(o0, .inl (cy 2, 1, .inr (.inl (fun _ => 0))))] H := hP
    have hD : va_D A [(o0, .inl (cy 2, 1, .inr (.inl (fun _ => 0))))] := hD
    refine lv_astore_n (lv' := [(3, .ref q9), (0, .ref h0), (1, .int p0), (2, .ref o0)]) hx hb dL_translated_12 rfl hl (by decide) rfl (fun ls hl => ?_)
    refine lv_iconst (v := 1) hx hb dL_translated_13 (by decide) ?_
    exact vx_ret (kt_iret hx hb hr hlocks hP hD hS dL_translated_14 [0] rfl rfl rfl rfl ⟨rfl, rfl⟩)
  · exact hw.elim
set_option maxHeartbeats 4000000 in
set_option maxRecDepth 100000 in
theorem c_L_slack (l : Launch) (G : va_G) (cy : Nat → ClassId) (sa : Nat → Nat) (hlst : l.stackTraces = false) (h0 : Nat) (r1 : Nat) (r2 : Nat) (r4 : Nat) (r6 : Nat) (r7 : Nat) (r9 : Nat) (r3 : Nat) (o0 : Nat) (p0 : Int32) (p1 : Int32) : Kw l G cy sa yL_slack cL_slack 5 (some .int) [(0, 10, 13, 22), (0, 10, 17, 13)] ({ frames := 18, cells := 1, slots := 6, locals := 600 } : Room) [.ref h0, .int p0, .int p1, .ref o0] [(h0, .inr (10, [.ref r1, .int 0, .int (-1), .ref r2, .ref r4, .ref r6, .int (-2), .ref r7, .ref r9])), (r2, .inr (0, [.ref r3, .int 0, .int 0])), (o0, .inl (cy 2, 1, .inr (.inl (fun _ => 0))))] (fun (v : Option Value) (w1 : va_W) => v = some (.int 1) ∧ w1 = [(o0, .inl (cy 2, 1, .inr (.inl (fun _ => 0))))]) := by
  refine kw_ofW (by decide) (Nat.le_of_ble_eq_true rfl) ?_
  intro p e s m below meth c A ls hx hb hr hU hown hlocks hml hin hP hK hD hA hS hl hZ htab
  have hown : s.vm.findClass RL = some m.cls := hown
  have hl : lv_has ls 5 [(0, .ref h0), (1, .int p0), (2, .int p1), (3, .ref o0)] := hl
  refine lv_aload_n hx hb dL_slack_0 rfl (lv_at hl 3 rfl) ?_
  refine lv_iconst (v := 0) hx hb dL_slack_1 (by decide) ?_
  refine lv_aload_n hx hb dL_slack_2 rfl (lv_at hl 0 rfl) ?_
  refine lv_iload_n hx hb dL_slack_3 rfl (lv_at hl 1 rfl) ?_
  refine lv_iload_n hx hb dL_slack_4 rfl (lv_at hl 2 rfl) ?_
  refine kx_callVH (wc := [(h0, .inr (10, [.ref r1, .int 0, .int (-1), .ref r2, .ref r4, .ref r6, .int (-2), .ref r7, .ref r9])), (r2, .inr (0, [.ref r3, .int 0, .int 0]))]) (wr := [(o0, .inl (cy 2, 1, .inr (.inl (fun _ => 0))))]) (As := [.int p0, .int p1]) (rest := [.int 0, .ref o0]) (c_X11_slack l G cy sa hlst h0 r1 r2 r4 r6 r7 r9 r3 p0 p1) m_X11_slack u_1471 hx hb hml hown hU hl.1 hK hP hD hS hA dL_slack_5 [0, 1] [2] rfl rfl rfl rfl rfl rfl (Nat.le_of_ble_eq_true rfl) (ci := 10) rfl rfl rfl hZ (fun E9 ce9 q9 H locs hpx hP hD hS hce hcv hcl => ?_) (fun v9 w9 H locs hw hP hD hS => ?_)
  · rcases hpx with rfl
    refine vx_catch hown [] (⟨0, 10, 13, 22⟩ : ExceptionTableEntry) [(⟨0, 10, 17, 13⟩ : ExceptionTableEntry)] (by rw [htab]; rfl) (fun z9 h9 => by cases h9) (by decide) (by decide) (hU _ u_1073) (va_Nw.use rfl (hZ.2.2.2.1 (.castable eIO eIO) (by decide +kernel))) hce hcv hcl ?_
    refine W.eq (g2 := F0 m 13 ls [.ref q9]) rfl ?_
    refine W.widen (k := 1) (n := 6) (Nat.le_of_ble_eq_true rfl) (Nat.le_of_ble_eq_true rfl) ?_
    have hP : va_P G vwCl [(o0, .inl (cy 2, 1, .inr (.inl (fun _ => 0))))] H := hP
    have hD : va_D A [(o0, .inl (cy 2, 1, .inr (.inl (fun _ => 0))))] := hD
    refine lv_astore (lv' := [(4, .ref q9), (0, .ref h0), (1, .int p0), (2, .int p1), (3, .ref o0)]) hx hb dL_slack_13 hl (by decide) rfl (fun ls hl => ?_)
    refine lv_iconst (v := 1) hx hb dL_slack_15 (by decide) ?_
    exact vx_ret (kt_iret hx hb hr hlocks hP hD hS dL_slack_16 [0] rfl rfl rfl rfl ⟨rfl, rfl⟩)
  · exact hw.elim
set_option maxHeartbeats 4000000 in
set_option maxRecDepth 100000 in
theorem c_L_rests (l : Launch) (G : va_G) (cy : Nat → ClassId) (sa : Nat → Nat) (hlst : l.stackTraces = false) (h0 : Nat) (r1 : Nat) (r2 : Nat) (r4 : Nat) (r6 : Nat) (r7 : Nat) (r9 : Nat) (r3 : Nat) (o0 : Nat) (p0 : Int32) : Kw l G cy sa yL_rests cL_rests 4 (some .int) [(0, 9, 12, 22)] ({ frames := 18, cells := 1, slots := 6, locals := 600 } : Room) [.ref h0, .int p0, .ref o0] [(h0, .inr (10, [.ref r1, .int 0, .int (-1), .ref r2, .ref r4, .ref r6, .int (-2), .ref r7, .ref r9])), (r2, .inr (0, [.ref r3, .int 0, .int 0])), (o0, .inl (cy 2, 1, .inr (.inl (fun _ => 0))))] (fun (v : Option Value) (w1 : va_W) => v = some (.int 1) ∧ w1 = [(o0, .inl (cy 2, 1, .inr (.inl (fun _ => 0))))]) := by
  refine kw_ofW (by decide) (Nat.le_of_ble_eq_true rfl) ?_
  intro p e s m below meth c A ls hx hb hr hU hown hlocks hml hin hP hK hD hA hS hl hZ htab
  have hown : s.vm.findClass RL = some m.cls := hown
  have hl : lv_has ls 4 [(0, .ref h0), (1, .int p0), (2, .ref o0)] := hl
  refine lv_aload_n hx hb dL_rests_0 rfl (lv_at hl 2 rfl) ?_
  refine lv_iconst (v := 0) hx hb dL_rests_1 (by decide) ?_
  refine lv_aload_n hx hb dL_rests_2 rfl (lv_at hl 0 rfl) ?_
  refine lv_iload_n hx hb dL_rests_3 rfl (lv_at hl 1 rfl) ?_
  refine kx_callVH (wc := [(h0, .inr (10, [.ref r1, .int 0, .int (-1), .ref r2, .ref r4, .ref r6, .int (-2), .ref r7, .ref r9])), (r2, .inr (0, [.ref r3, .int 0, .int 0]))]) (wr := [(o0, .inl (cy 2, 1, .inr (.inl (fun _ => 0))))]) (As := [.int p0]) (rest := [.int 0, .ref o0]) (c_X11_rests l G cy sa hlst h0 r1 r2 r4 r6 r7 r9 r3 p0) m_X11_rests u_1479 hx hb hml hown hU hl.1 hK hP hD hS hA dL_rests_4 [0, 1] [2] rfl rfl rfl rfl rfl rfl (Nat.le_of_ble_eq_true rfl) (ci := 10) rfl rfl rfl hZ (fun E9 ce9 q9 H locs hpx hP hD hS hce hcv hcl => ?_) (fun v9 w9 H locs hw hP hD hS => ?_)
  · rcases hpx with rfl
    refine vx_catch hown [] (⟨0, 9, 12, 22⟩ : ExceptionTableEntry) [] (by rw [htab]; rfl) (fun z9 h9 => by cases h9) (by decide) (by decide) (hU _ u_1073) (va_Nw.use rfl (hZ.2.2.2.1 (.castable eIO eIO) (by decide +kernel))) hce hcv hcl ?_
    refine W.eq (g2 := F0 m 12 ls [.ref q9]) rfl ?_
    refine W.widen (k := 1) (n := 6) (Nat.le_of_ble_eq_true rfl) (Nat.le_of_ble_eq_true rfl) ?_
    have hP : va_P G vwCl [(o0, .inl (cy 2, 1, .inr (.inl (fun _ => 0))))] H := hP
    have hD : va_D A [(o0, .inl (cy 2, 1, .inr (.inl (fun _ => 0))))] := hD
    refine lv_astore_n (lv' := [(3, .ref q9), (0, .ref h0), (1, .int p0), (2, .ref o0)]) hx hb dL_rests_12 rfl hl (by decide) rfl (fun ls hl => ?_)
    refine lv_iconst (v := 1) hx hb dL_rests_13 (by decide) ?_
    exact vx_ret (kt_iret hx hb hr hlocks hP hD hS dL_rests_14 [0] rfl rfl rfl rfl ⟨rfl, rfl⟩)
  · exact hw.elim
set_option maxHeartbeats 4000000 in
set_option maxRecDepth 100000 in
theorem c_L_without (l : Launch) (G : va_G) (cy : Nat → ClassId) (sa : Nat → Nat) (hlst : l.stackTraces = false) (h0 : Nat) (r1 : Nat) (r2 : Nat) (r4 : Nat) (r6 : Nat) (r7 : Nat) (r9 : Nat) (r3 : Nat) (o0 : Nat) (p0 : Int32) : Kw l G cy sa yL_without cL_without 4 (some .int) [(0, 9, 12, 22)] ({ frames := 18, cells := 1, slots := 6, locals := 600 } : Room) [.ref h0, .int p0, .ref o0] [(h0, .inr (10, [.ref r1, .int 0, .int (-1), .ref r2, .ref r4, .ref r6, .int (-2), .ref r7, .ref r9])), (r2, .inr (0, [.ref r3, .int 0, .int 0])), (o0, .inl (cy 2, 1, .inr (.inl (fun _ => 0))))] (fun (v : Option Value) (w1 : va_W) => v = some (.int 1) ∧ w1 = [(o0, .inl (cy 2, 1, .inr (.inl (fun _ => 0))))]) := by
  refine kw_ofW (by decide) (Nat.le_of_ble_eq_true rfl) ?_
  intro p e s m below meth c A ls hx hb hr hU hown hlocks hml hin hP hK hD hA hS hl hZ htab
  have hown : s.vm.findClass RL = some m.cls := hown
  have hl : lv_has ls 4 [(0, .ref h0), (1, .int p0), (2, .ref o0)] := hl
  refine lv_aload_n hx hb dL_without_0 rfl (lv_at hl 2 rfl) ?_
  refine lv_iconst (v := 0) hx hb dL_without_1 (by decide) ?_
  refine lv_aload_n hx hb dL_without_2 rfl (lv_at hl 0 rfl) ?_
  refine lv_iload_n hx hb dL_without_3 rfl (lv_at hl 1 rfl) ?_
  refine kx_callVH (wc := [(h0, .inr (10, [.ref r1, .int 0, .int (-1), .ref r2, .ref r4, .ref r6, .int (-2), .ref r7, .ref r9])), (r2, .inr (0, [.ref r3, .int 0, .int 0]))]) (wr := [(o0, .inl (cy 2, 1, .inr (.inl (fun _ => 0))))]) (As := [.int p0]) (rest := [.int 0, .ref o0]) (c_X11_without l G cy sa hlst h0 r1 r2 r4 r6 r7 r9 r3 p0) m_X11_without u_1487 hx hb hml hown hU hl.1 hK hP hD hS hA dL_without_4 [0, 1] [2] rfl rfl rfl rfl rfl rfl (Nat.le_of_ble_eq_true rfl) (ci := 10) rfl rfl rfl hZ (fun E9 ce9 q9 H locs hpx hP hD hS hce hcv hcl => ?_) (fun v9 w9 H locs hw hP hD hS => ?_)
  · rcases hpx with rfl
    refine vx_catch hown [] (⟨0, 9, 12, 22⟩ : ExceptionTableEntry) [] (by rw [htab]; rfl) (fun z9 h9 => by cases h9) (by decide) (by decide) (hU _ u_1073) (va_Nw.use rfl (hZ.2.2.2.1 (.castable eIO eIO) (by decide +kernel))) hce hcv hcl ?_
    refine W.eq (g2 := F0 m 12 ls [.ref q9]) rfl ?_
    refine W.widen (k := 1) (n := 6) (Nat.le_of_ble_eq_true rfl) (Nat.le_of_ble_eq_true rfl) ?_
    have hP : va_P G vwCl [(o0, .inl (cy 2, 1, .inr (.inl (fun _ => 0))))] H := hP
    have hD : va_D A [(o0, .inl (cy 2, 1, .inr (.inl (fun _ => 0))))] := hD
    refine lv_astore_n (lv' := [(3, .ref q9), (0, .ref h0), (1, .int p0), (2, .ref o0)]) hx hb dL_without_12 rfl hl (by decide) rfl (fun ls hl => ?_)
    refine lv_iconst (v := 1) hx hb dL_without_13 (by decide) ?_
    exact vx_ret (kt_iret hx hb hr hlocks hP hD hS dL_without_14 [0] rfl rfl rfl rfl ⟨rfl, rfl⟩)
  · exact hw.elim
