set_option maxHeartbeats 4000000 in
set_option maxRecDepth 100000 in
theorem c_L_claim (l : Launch) (G : va_G) (cy : Nat → ClassId) (sa : Nat → Nat) (hlst : l.stackTraces = false) (h0 : Nat) (r1 : Nat) (r2 : Nat) (r4 : Nat) (r6 : Nat) (r7 : Nat) (r9 : Nat) (r3 : Nat) (o0 : Nat) : Kw l G cy sa yL_claim cL_claim 3 (some .int) [(0, 8, 11, 13)] ({ frames := 18, cells := 6, slots := 80, locals := 600 } : Room) [.ref h0, .ref o0] [(h0, .inr (10, [.ref r1, .int 0, .int (-1), .ref r2, .ref r4, .ref r6, .int (-2), .ref r7, .ref r9])), (r2, .inr (0, [.ref r3, .int 0, .int 0])), (r6, .inl (cy 5, 7, .inr (.inr (.inr (.inr (fun _ => none)))))), (o0, .inl (cy 2, 1, .inr (.inl (fun _ => 0))))] (fun (v : Option Value) (w1 : va_W) => v = some (.int 0) ∧ w1 = [(o0, .inl (cy 2, 1, .inr (.inl (fun _ => 0))))]) := by
  refine kw_ofW (by decide) (Nat.le_of_ble_eq_true rfl) ?_
  intro p e s m below meth c A ls hx hb hr hU hown hlocks hml hin hP hK hD hA hS hl hZ htab
  have hown : s.vm.findClass RL = some m.cls := hown
  have hl : lv_has ls 3 [(0, .ref h0), (1, .ref o0)] := hl
  refine lv_aload_n hx hb dL_claim_0 rfl (lv_at hl 1 rfl) ?_
  refine lv_iconst (v := 0) hx hb dL_claim_1 (by decide) ?_
  refine lv_aload_n hx hb dL_claim_2 rfl (lv_at hl 0 rfl) ?_
  refine kt_callV (wc := [(h0, .inr (10, [.ref r1, .int 0, .int (-1), .ref r2, .ref r4, .ref r6, .int (-2), .ref r7, .ref r9])), (r2, .inr (0, [.ref r3, .int 0, .int 0])), (r6, .inl (cy 5, 7, .inr (.inr (.inr (.inr (fun _ => none))))))]) (wr := [(o0, .inl (cy 2, 1, .inr (.inl (fun _ => 0))))]) (As := []) (rest := [.int 0, .ref o0]) (c_X11_claim l G cy h0 r1 r2 r4 r6 r7 r9 r3) m_X11_claim u_482 hx hb hml hown hU hl.1 hK hP hD hS hA dL_claim_3 [0, 1, 2] [3] rfl rfl rfl rfl rfl rfl (Nat.le_of_ble_eq_true rfl) (ci := 10) rfl rfl rfl (fun v9 w9 H locs hw hP hD hS => ?_)
  obtain ⟨rfl, rfl⟩ := hw
  have hP : va_P G vwCl [(o0, .inl (cy 2, 1, .inr (.inl (fun _ => 0))))] H := hP
  have hD : va_D A [(o0, .inl (cy 2, 1, .inr (.inl (fun _ => 0))))] := hD
  refine W.eq (g2 := F0 m 6 ls [.int 0, .int 0, .ref o0]) rfl ?_
  refine W.widen (k := 6) (n := 80) (Nat.le_of_ble_eq_true rfl) (Nat.le_of_ble_eq_true rfl) ?_
  refine lv_i2l (v := 0) hx hb dL_claim_6 (by decide +kernel) ?_
  refine va_last hx hb hK.1 hP hD hS 0 2 rfl rfl (lx_in (by decide +kernel)) dL_claim_7 (fun H locs hP hD hS => ?_)
  rw [lx_upL] at hP hD
  have hP : va_P G vwCl [(o0, .inl (cy 2, 1, .inr (.inl (fun _ => 0))))] H := hP
  have hD : va_D A [(o0, .inl (cy 2, 1, .inr (.inl (fun _ => 0))))] := hD
  refine lv_goto (tgt := 14) hx hb dL_claim_8 (by decide) ?_
  refine lv_iconst (v := 0) hx hb dL_claim_14 (by decide) ?_
  exact vx_ret (kt_iret hx hb hr hlocks hP hD hS dL_claim_15 [0] rfl rfl rfl rfl ⟨rfl, rfl⟩)
set_option maxHeartbeats 4000000 in
set_option maxRecDepth 100000 in
theorem c_L_proof (l : Launch) (G : va_G) (cy : Nat → ClassId) (sa : Nat → Nat) (hlst : l.stackTraces = false) (h0 : Nat) (r1 : Nat) (r2 : Nat) (r4 : Nat) (r6 : Nat) (r7 : Nat) (r9 : Nat) (r3 : Nat) (o0 : Nat) : Kw l G cy sa yL_proof cL_proof 3 (some .int) [(0, 8, 11, 13)] ({ frames := 18, cells := 4, slots := 69, locals := 600 } : Room) [.ref h0, .ref o0] [(h0, .inr (10, [.ref r1, .int 0, .int (-1), .ref r2, .ref r4, .ref r6, .int (-2), .ref r7, .ref r9])), (r2, .inr (0, [.ref r3, .int 0, .int 0])), (o0, .inl (cy 2, 1, .inr (.inl (fun _ => 0))))] (fun (v : Option Value) (w1 : va_W) => v = some (.int 0) ∧ w1 = [(o0, .inl (cy 2, 1, .inr (.inl (fun _ => 0))))]) := by
  refine kw_ofW (by decide) (Nat.le_of_ble_eq_true rfl) ?_
  intro p e s m below meth c A ls hx hb hr hU hown hlocks hml hin hP hK hD hA hS hl hZ htab
  have hown : s.vm.findClass RL = some m.cls := hown
  have hl : lv_has ls 3 [(0, .ref h0), (1, .ref o0)] := hl
  refine lv_aload_n hx hb dL_proof_0 rfl (lv_at hl 1 rfl) ?_
  refine lv_iconst (v := 0) hx hb dL_proof_1 (by decide) ?_
  refine lv_aload_n hx hb dL_proof_2 rfl (lv_at hl 0 rfl) ?_
  refine kt_callV (wc := [(h0, .inr (10, [.ref r1, .int 0, .int (-1), .ref r2, .ref r4, .ref r6, .int (-2), .ref r7, .ref r9])), (r2, .inr (0, [.ref r3, .int 0, .int 0]))]) (wr := [(o0, .inl (cy 2, 1, .inr (.inl (fun _ => 0))))]) (As := []) (rest := [.int 0, .ref o0]) (c_X11_proof l G cy h0 r1 r2 r4 r6 r7 r9 r3) m_X11_proof u_1052 hx hb hml hown hU hl.1 hK hP hD hS hA dL_proof_3 [0, 1] [2] rfl rfl rfl rfl rfl rfl (Nat.le_of_ble_eq_true rfl) (ci := 10) rfl rfl rfl (fun v9 w9 H locs hw hP hD hS => ?_)
  obtain ⟨rfl, rfl⟩ := hw
  have hP : va_P G vwCl [(o0, .inl (cy 2, 1, .inr (.inl (fun _ => 0))))] H := hP
  have hD : va_D A [(o0, .inl (cy 2, 1, .inr (.inl (fun _ => 0))))] := hD
  refine W.eq (g2 := F0 m 6 ls [.int 0, .int 0, .ref o0]) rfl ?_
  refine W.widen (k := 4) (n := 69) (Nat.le_of_ble_eq_true rfl) (Nat.le_of_ble_eq_true rfl) ?_
  refine lv_i2l (v := 0) hx hb dL_proof_6 (by decide +kernel) ?_
  refine va_last hx hb hK.1 hP hD hS 0 2 rfl rfl (lx_in (by decide +kernel)) dL_proof_7 (fun H locs hP hD hS => ?_)
  rw [lx_upL] at hP hD
  have hP : va_P G vwCl [(o0, .inl (cy 2, 1, .inr (.inl (fun _ => 0))))] H := hP
  have hD : va_D A [(o0, .inl (cy 2, 1, .inr (.inl (fun _ => 0))))] := hD
  refine lv_goto (tgt := 14) hx hb dL_proof_8 (by decide) ?_
  refine lv_iconst (v := 0) hx hb dL_proof_14 (by decide) ?_
  exact vx_ret (kt_iret hx hb hr hlocks hP hD hS dL_proof_15 [0] rfl rfl rfl rfl ⟨rfl, rfl⟩)
set_option maxHeartbeats 4000000 in
set_option maxRecDepth 100000 in
theorem c_L_units (l : Launch) (G : va_G) (cy : Nat → ClassId) (sa : Nat → Nat) (hlst : l.stackTraces = false) (h0 : Nat) (r1 : Nat) (r2 : Nat) (r4 : Nat) (r6 : Nat) (r7 : Nat) (r9 : Nat) (r3 : Nat) (o0 : Nat) (p0 : Int32) (p1 : Int32) (p2 : Int32) : Kw l G cy sa yL_units cL_units 6 (some .int) [(0, 12, 15, 13), (0, 12, 19, 24)] ({ frames := 18, cells := 2, slots := 12, locals := 600 } : Room) [.ref h0, .int p0, .int p1, .int p2, .ref o0] [(h0, .inr (10, [.ref r1, .int 0, .int (-1), .ref r2, .ref r4, .ref r6, .int (-2), .ref r7, .ref r9])), (r2, .inr (0, [.ref r3, .int 0, .int 0])), (o0, .inl (cy 2, 1, .inr (.inl (fun _ => 0))))] (fun (v : Option Value) (w1 : va_W) => ∃ (k : Int32), ∃ (f1 : Nat → Int64), v = some (.int k) ∧ w1 = [(o0, .inl (cy 2, 1, .inr (.inl f1)))] ∧ ((k = 1 ∧ ¬ okSets p0 p1) ∨ (k = 2 ∧ okSets p0 p1 ∧ ¬ okWhat p2) ∨ (k = 0 ∧ okSets p0 p1 ∧ okWhat p2 ∧ f1 0 = (sp_units p0 p1 p2).toInt64))) := by
  refine kw_ofW (by decide) (Nat.le_of_ble_eq_true rfl) ?_
  intro p e s m below meth c A ls hx hb hr hU hown hlocks hml hin hP hK hD hA hS hl hZ htab
  have hown : s.vm.findClass RL = some m.cls := hown
  have hl : lv_has ls 6 [(0, .ref h0), (1, .int p0), (2, .int p1), (3, .int p2), (4, .ref o0)] := hl
  refine lv_aload hx hb dL_units_0 (lv_at hl 4 rfl) ?_
  refine lv_iconst (v := 0) hx hb dL_units_2 (by decide) ?_
  refine lv_aload_n hx hb dL_units_3 rfl (lv_at hl 0 rfl) ?_
  refine lv_iload_n hx hb dL_units_4 rfl (lv_at hl 1 rfl) ?_
  refine lv_iload_n hx hb dL_units_5 rfl (lv_at hl 2 rfl) ?_
  refine lv_iload_n hx hb dL_units_6 rfl (lv_at hl 3 rfl) ?_
  refine kx_callVH (wc := [(h0, .inr (10, [.ref r1, .int 0, .int (-1), .ref r2, .ref r4, .ref r6, .int (-2), .ref r7, .ref r9])), (r2, .inr (0, [.ref r3, .int 0, .int 0]))]) (wr := [(o0, .inl (cy 2, 1, .inr (.inl (fun _ => 0))))]) (As := [.int p0, .int p1, .int p2]) (rest := [.int 0, .ref o0]) (c_X11_units l G cy sa hlst h0 r1 r2 r4 r6 r7 r9 r3 p0 p1 p2) m_X11_units u_1236 hx hb hml hown hU hl.1 hK hP hD hS hA dL_units_7 [0, 1] [2] rfl rfl rfl rfl rfl rfl (Nat.le_of_ble_eq_true rfl) (ci := 10) rfl rfl rfl hZ (fun E9 ce9 q9 H locs hpx hP hD hS hce hcv hcl => ?_) (fun v9 w9 H locs hw hP hD hS => ?_)
  · rcases hpx with ⟨rfl, hx1⟩ | ⟨rfl, hx1, hx2⟩
    · refine vx_catch hown [] (⟨0, 12, 15, 13⟩ : ExceptionTableEntry) [(⟨0, 12, 19, 24⟩ : ExceptionTableEntry)] (by rw [htab]; rfl) (fun z9 h9 => by cases h9) (by decide) (by decide) (hU _ u_481) (va_Nw.use rfl (hZ.2.2.2.1 (.castable eIA eIA) (by decide +kernel))) hce hcv hcl ?_
      refine W.eq (g2 := F0 m 15 ls [.ref q9]) rfl ?_
      refine W.widen (k := 2) (n := 12) (Nat.le_of_ble_eq_true rfl) (Nat.le_of_ble_eq_true rfl) ?_
      have hP : va_P G vwCl [(o0, .inl (cy 2, 1, .inr (.inl (fun _ => 0))))] H := hP
      have hD : va_D A [(o0, .inl (cy 2, 1, .inr (.inl (fun _ => 0))))] := hD
      refine lv_astore (lv' := [(5, .ref q9), (0, .ref h0), (1, .int p0), (2, .int p1), (3, .int p2), (4, .ref o0)]) hx hb dL_units_15 hl (by decide) rfl (fun ls hl => ?_)
      refine lv_iconst (v := 1) hx hb dL_units_17 (by decide) ?_
      exact vx_ret (kt_iret hx hb hr hlocks hP hD hS dL_units_18 [0] rfl rfl rfl rfl ⟨1, (fun _ => 0), rfl, rfl, (Or.inl ⟨rfl, hx1⟩)⟩)
    · refine vx_catch hown [(⟨0, 12, 15, 13⟩ : ExceptionTableEntry)] (⟨0, 12, 19, 24⟩ : ExceptionTableEntry) [] (by rw [htab]; rfl) (fun z9 h9 => by rcases List.mem_singleton.mp h9 with rfl; exact Or.inr ⟨by decide, eIA, hU _ u_481, hZ.2.2.1⟩) (by decide) (by decide) (hU _ u_1074) (va_Nw.use rfl (hZ.2.2.2.1 (.castable eNS eNS) (by decide +kernel))) hce hcv hcl ?_
      refine W.eq (g2 := F0 m 19 ls [.ref q9]) rfl ?_
      refine W.widen (k := 2) (n := 12) (Nat.le_of_ble_eq_true rfl) (Nat.le_of_ble_eq_true rfl) ?_
      have hP : va_P G vwCl [(o0, .inl (cy 2, 1, .inr (.inl (fun _ => 0))))] H := hP
      have hD : va_D A [(o0, .inl (cy 2, 1, .inr (.inl (fun _ => 0))))] := hD
      refine lv_astore (lv' := [(5, .ref q9), (0, .ref h0), (1, .int p0), (2, .int p1), (3, .int p2), (4, .ref o0)]) hx hb dL_units_19 hl (by decide) rfl (fun ls hl => ?_)
      refine lv_iconst (v := 2) hx hb dL_units_21 (by decide) ?_
      exact vx_ret (kt_iret hx hb hr hlocks hP hD hS dL_units_22 [0] rfl rfl rfl rfl ⟨2, (fun _ => 0), rfl, rfl, (Or.inr (Or.inl ⟨rfl, hx1, hx2⟩))⟩)
  · obtain ⟨x_1, rfl, rfl, hp_2⟩ := hw
    have hP : va_P G vwCl [(o0, .inl (cy 2, 1, .inr (.inl (fun _ => 0))))] H := hP
    have hD : va_D A [(o0, .inl (cy 2, 1, .inr (.inl (fun _ => 0))))] := hD
    refine W.eq (g2 := F0 m 10 ls [.int x_1, .int 0, .ref o0]) rfl ?_
    refine W.widen (k := 2) (n := 12) (Nat.le_of_ble_eq_true rfl) (Nat.le_of_ble_eq_true rfl) ?_
    refine lv_i2l hx hb dL_units_10 rfl ?_
    refine va_last hx hb hK.1 hP hD hS 0 2 rfl rfl (lx_in (by decide +kernel)) dL_units_11 (fun H locs hP hD hS => ?_)
    have hP : va_P G vwCl [(o0, .inl (cy 2, 1, .inr (.inl (vp_updL (fun _ => 0) (0 : Int32).toNatClampNeg ((x_1).toInt64)))))] H := hP
    have hD : va_D A [(o0, .inl (cy 2, 1, .inr (.inl (vp_updL (fun _ => 0) (0 : Int32).toNatClampNeg ((x_1).toInt64)))))] := hD
    refine lv_goto (tgt := 23) hx hb dL_units_12 (by decide) ?_
    refine lv_iconst (v := 0) hx hb dL_units_23 (by decide) ?_
    exact vx_ret (kt_iret hx hb hr hlocks hP hD hS dL_units_24 [0] rfl rfl rfl rfl ⟨0, (vp_updL (fun _ => 0) (0 : Int32).toNatClampNeg ((x_1).toInt64)), rfl, rfl, (Or.inr (Or.inr ⟨rfl, hp_2.1, hp_2.2.1, congrArg Int32.toInt64 hp_2.2.2⟩))⟩)
set_option maxHeartbeats 4000000 in
set_option maxRecDepth 100000 in
theorem c_L_within (l : Launch) (G : va_G) (cy : Nat → ClassId) (sa : Nat → Nat) (hlst : l.stackTraces = false) (h0 : Nat) (r1 : Nat) (r2 : Nat) (r4 : Nat) (r6 : Nat) (r7 : Nat) (r9 : Nat) (r3 : Nat) (o0 : Nat) (p0 : Int32) (p1 : Int32) : Kw l G cy sa yL_within cL_within 5 (some .int) [(0, 10, 13, 13), (0, 10, 17, 24)] ({ frames := 18, cells := 4, slots := 806, locals := 600 } : Room) [.ref h0, .int p0, .int p1, .ref o0] [(h0, .inr (10, [.ref r1, .int 0, .int (-1), .ref r2, .ref r4, .ref r6, .int (-2), .ref r7, .ref r9])), (r2, .inr (0, [.ref r3, .int 0, .int 0])), (r6, .inl (cy 5, 7, .inr (.inr (.inr (.inr (fun _ => none)))))), (o0, .inl (cy 2, 1, .inr (.inl (fun _ => 0))))] (fun (v : Option Value) (w1 : va_W) => ∃ (k : Int32), ∃ (f1 : Nat → Int64), v = some (.int k) ∧ w1 = [(o0, .inl (cy 2, 1, .inr (.inl f1)))] ∧ ((k = 1 ∧ ¬ okWidth p0) ∨ (k = 2 ∧ okWidth p0 ∧ ¬ okWhat p1) ∨ (k = 0 ∧ okWidth p0 ∧ okWhat p1 ∧ f1 0 = (sp_within p1).toInt64))) := by
  refine kw_ofW (by decide) (Nat.le_of_ble_eq_true rfl) ?_
  intro p e s m below meth c A ls hx hb hr hU hown hlocks hml hin hP hK hD hA hS hl hZ htab
  have hown : s.vm.findClass RL = some m.cls := hown
  have hl : lv_has ls 5 [(0, .ref h0), (1, .int p0), (2, .int p1), (3, .ref o0)] := hl
  refine lv_aload_n hx hb dL_within_0 rfl (lv_at hl 3 rfl) ?_
  refine lv_iconst (v := 0) hx hb dL_within_1 (by decide) ?_
  refine lv_aload_n hx hb dL_within_2 rfl (lv_at hl 0 rfl) ?_
  refine lv_iload_n hx hb dL_within_3 rfl (lv_at hl 1 rfl) ?_
  refine lv_iload_n hx hb dL_within_4 rfl (lv_at hl 2 rfl) ?_
  refine kx_callVH (wc := [(h0, .inr (10, [.ref r1, .int 0, .int (-1), .ref r2, .ref r4, .ref r6, .int (-2), .ref r7, .ref r9])), (r2, .inr (0, [.ref r3, .int 0, .int 0])), (r6, .inl (cy 5, 7, .inr (.inr (.inr (.inr (fun _ => none))))))]) (wr := [(o0, .inl (cy 2, 1, .inr (.inl (fun _ => 0))))]) (As := [.int p0, .int p1]) (rest := [.int 0, .ref o0]) (c_X11_within l G cy sa hlst h0 r1 r2 r4 r6 r7 r9 r3 p0 p1) m_X11_within u_1283 hx hb hml hown hU hl.1 hK hP hD hS hA dL_within_5 [0, 1, 2] [3] rfl rfl rfl rfl rfl rfl (Nat.le_of_ble_eq_true rfl) (ci := 10) rfl rfl rfl hZ (fun E9 ce9 q9 H locs hpx hP hD hS hce hcv hcl => ?_) (fun v9 w9 H locs hw hP hD hS => ?_)
  · rcases hpx with ⟨rfl, hx1⟩ | ⟨rfl, hx1, hx2⟩
    · refine vx_catch hown [] (⟨0, 10, 13, 13⟩ : ExceptionTableEntry) [(⟨0, 10, 17, 24⟩ : ExceptionTableEntry)] (by rw [htab]; rfl) (fun z9 h9 => by cases h9) (by decide) (by decide) (hU _ u_481) (va_Nw.use rfl (hZ.2.2.2.1 (.castable eIA eIA) (by decide +kernel))) hce hcv hcl ?_
      refine W.eq (g2 := F0 m 13 ls [.ref q9]) rfl ?_
      refine W.widen (k := 4) (n := 806) (Nat.le_of_ble_eq_true rfl) (Nat.le_of_ble_eq_true rfl) ?_
      have hP : va_P G vwCl [(o0, .inl (cy 2, 1, .inr (.inl (fun _ => 0))))] H := hP
      have hD : va_D A [(o0, .inl (cy 2, 1, .inr (.inl (fun _ => 0))))] := hD
      refine lv_astore (lv' := [(4, .ref q9), (0, .ref h0), (1, .int p0), (2, .int p1), (3, .ref o0)]) hx hb dL_within_13 hl (by decide) rfl (fun ls hl => ?_)
      refine lv_iconst (v := 1) hx hb dL_within_15 (by decide) ?_
      exact vx_ret (kt_iret hx hb hr hlocks hP hD hS dL_within_16 [0] rfl rfl rfl rfl ⟨1, (fun _ => 0), rfl, rfl, (Or.inl ⟨rfl, hx1⟩)⟩)
    · refine vx_catch hown [(⟨0, 10, 13, 13⟩ : ExceptionTableEntry)] (⟨0, 10, 17, 24⟩ : ExceptionTableEntry) [] (by rw [htab]; rfl) (fun z9 h9 => by rcases List.mem_singleton.mp h9 with rfl; exact Or.inr ⟨by decide, eIA, hU _ u_481, hZ.2.2.1⟩) (by decide) (by decide) (hU _ u_1074) (va_Nw.use rfl (hZ.2.2.2.1 (.castable eNS eNS) (by decide +kernel))) hce hcv hcl ?_
      refine W.eq (g2 := F0 m 17 ls [.ref q9]) rfl ?_
      refine W.widen (k := 4) (n := 806) (Nat.le_of_ble_eq_true rfl) (Nat.le_of_ble_eq_true rfl) ?_
      have hP : va_P G vwCl [(o0, .inl (cy 2, 1, .inr (.inl (fun _ => 0))))] H := hP
      have hD : va_D A [(o0, .inl (cy 2, 1, .inr (.inl (fun _ => 0))))] := hD
      refine lv_astore (lv' := [(4, .ref q9), (0, .ref h0), (1, .int p0), (2, .int p1), (3, .ref o0)]) hx hb dL_within_17 hl (by decide) rfl (fun ls hl => ?_)
      refine lv_iconst (v := 2) hx hb dL_within_19 (by decide) ?_
      exact vx_ret (kt_iret hx hb hr hlocks hP hD hS dL_within_20 [0] rfl rfl rfl rfl ⟨2, (fun _ => 0), rfl, rfl, (Or.inr (Or.inl ⟨rfl, hx1, hx2⟩))⟩)
  · obtain ⟨x_1, rfl, rfl, hp_2⟩ := hw
    have hP : va_P G vwCl [(o0, .inl (cy 2, 1, .inr (.inl (fun _ => 0))))] H := hP
    have hD : va_D A [(o0, .inl (cy 2, 1, .inr (.inl (fun _ => 0))))] := hD
    refine W.eq (g2 := F0 m 8 ls [.int x_1, .int 0, .ref o0]) rfl ?_
    refine W.widen (k := 4) (n := 806) (Nat.le_of_ble_eq_true rfl) (Nat.le_of_ble_eq_true rfl) ?_
    refine lv_i2l hx hb dL_within_8 rfl ?_
    refine va_last hx hb hK.1 hP hD hS 0 2 rfl rfl (lx_in (by decide +kernel)) dL_within_9 (fun H locs hP hD hS => ?_)
    have hP : va_P G vwCl [(o0, .inl (cy 2, 1, .inr (.inl (vp_updL (fun _ => 0) (0 : Int32).toNatClampNeg ((x_1).toInt64)))))] H := hP
    have hD : va_D A [(o0, .inl (cy 2, 1, .inr (.inl (vp_updL (fun _ => 0) (0 : Int32).toNatClampNeg ((x_1).toInt64)))))] := hD
    refine lv_goto (tgt := 21) hx hb dL_within_10 (by decide) ?_
    refine lv_iconst (v := 0) hx hb dL_within_21 (by decide) ?_
    exact vx_ret (kt_iret hx hb hr hlocks hP hD hS dL_within_22 [0] rfl rfl rfl rfl ⟨0, (vp_updL (fun _ => 0) (0 : Int32).toNatClampNeg ((x_1).toInt64)), rfl, rfl, (Or.inr (Or.inr ⟨rfl, hp_2.1, hp_2.2.1, congrArg Int32.toInt64 hp_2.2.2⟩))⟩)
set_option maxHeartbeats 4000000 in
set_option maxRecDepth 100000 in
theorem c_L_has (l : Launch) (G : va_G) (cy : Nat → ClassId) (sa : Nat → Nat) (hlst : l.stackTraces = false) (h0 : Nat) (r1 : Nat) (r2 : Nat) (r4 : Nat) (r6 : Nat) (r7 : Nat) (r9 : Nat) (r3 : Nat) (o0 : Nat) (p0 : Int32) (p1 : Int32) (p2 : Int32) : Kw l G cy sa yL_has cL_has 6 (some .int) [(0, 19, 22, 13)] ({ frames := 18, cells := 5, slots := 812, locals := 600 } : Room) [.ref h0, .int p0, .int p1, .int p2, .ref o0] [(h0, .inr (10, [.ref r1, .int 0, .int (-1), .ref r2, .ref r4, .ref r6, .int (-2), .ref r7, .ref r9])), (r2, .inr (0, [.ref r3, .int 0, .int 0])), (r6, .inl (cy 5, 7, .inr (.inr (.inr (.inr (fun _ => none)))))), (o0, .inl (cy 2, 1, .inr (.inl (fun _ => 0))))] (fun (v : Option Value) (w1 : va_W) => ∃ (k : Int32), ∃ (f1 : Nat → Int64), v = some (.int k) ∧ w1 = [(o0, .inl (cy 2, 1, .inr (.inl f1)))] ∧ ((k = 1 ∧ ¬ (okWidth p0 ∧ okSets p1 p2)) ∨ (k = 0 ∧ (okWidth p0 ∧ okSets p1 p2) ∧ f1 0 = 0))) := by
  refine kw_ofW (by decide) (Nat.le_of_ble_eq_true rfl) ?_
  intro p e s m below meth c A ls hx hb hr hU hown hlocks hml hin hP hK hD hA hS hl hZ htab
  have hown : s.vm.findClass RL = some m.cls := hown
  have hl : lv_has ls 6 [(0, .ref h0), (1, .int p0), (2, .int p1), (3, .int p2), (4, .ref o0)] := hl
  refine lv_aload hx hb dL_has_0 (lv_at hl 4 rfl) ?_
  refine lv_iconst (v := 0) hx hb dL_has_2 (by decide) ?_
  refine lv_aload_n hx hb dL_has_3 rfl (lv_at hl 0 rfl) ?_
  refine lv_iload_n hx hb dL_has_4 rfl (lv_at hl 1 rfl) ?_
  refine lv_iload_n hx hb dL_has_5 rfl (lv_at hl 2 rfl) ?_
  refine lv_iload_n hx hb dL_has_6 rfl (lv_at hl 3 rfl) ?_
  refine kx_callVH (wc := [(h0, .inr (10, [.ref r1, .int 0, .int (-1), .ref r2, .ref r4, .ref r6, .int (-2), .ref r7, .ref r9])), (r2, .inr (0, [.ref r3, .int 0, .int 0])), (r6, .inl (cy 5, 7, .inr (.inr (.inr (.inr (fun _ => none))))))]) (wr := [(o0, .inl (cy 2, 1, .inr (.inl (fun _ => 0))))]) (As := [.int p0, .int p1, .int p2]) (rest := [.int 0, .ref o0]) (c_X11_has l G cy sa hlst h0 r1 r2 r4 r6 r7 r9 r3 p0 p1 p2) m_X11_has u_1294 hx hb hml hown hU hl.1 hK hP hD hS hA dL_has_7 [0, 1, 2] [3] rfl rfl rfl rfl rfl rfl (Nat.le_of_ble_eq_true rfl) (ci := 10) rfl rfl rfl hZ (fun E9 ce9 q9 H locs hpx hP hD hS hce hcv hcl => ?_) (fun v9 w9 H locs hw hP hD hS => ?_)
  · rcases hpx with ⟨rfl, hx1⟩
    refine vx_catch hown [] (⟨0, 19, 22, 13⟩ : ExceptionTableEntry) [] (by rw [htab]; rfl) (fun z9 h9 => by cases h9) (by decide) (by decide) (hU _ u_481) (va_Nw.use rfl (hZ.2.2.2.1 (.castable eIA eIA) (by decide +kernel))) hce hcv hcl ?_
    refine W.eq (g2 := F0 m 22 ls [.ref q9]) rfl ?_
    refine W.widen (k := 5) (n := 812) (Nat.le_of_ble_eq_true rfl) (Nat.le_of_ble_eq_true rfl) ?_
    have hP : va_P G vwCl [(o0, .inl (cy 2, 1, .inr (.inl (fun _ => 0))))] H := hP
    have hD : va_D A [(o0, .inl (cy 2, 1, .inr (.inl (fun _ => 0))))] := hD
    refine lv_astore (lv' := [(5, .ref q9), (0, .ref h0), (1, .int p0), (2, .int p1), (3, .int p2), (4, .ref o0)]) hx hb dL_has_22 hl (by decide) rfl (fun ls hl => ?_)
    refine lv_iconst (v := 1) hx hb dL_has_24 (by decide) ?_
    exact vx_ret (kt_iret hx hb hr hlocks hP hD hS dL_has_25 [0] rfl rfl rfl rfl ⟨1, (fun _ => 0), rfl, rfl, (Or.inl ⟨rfl, hx1⟩)⟩)
  · obtain ⟨rfl, rfl, hp_1⟩ := hw
    have hP : va_P G vwCl [(o0, .inl (cy 2, 1, .inr (.inl (fun _ => 0))))] H := hP
    have hD : va_D A [(o0, .inl (cy 2, 1, .inr (.inl (fun _ => 0))))] := hD
    refine W.eq (g2 := F0 m 10 ls [.int 0, .int 0, .ref o0]) rfl ?_
    refine W.widen (k := 5) (n := 812) (Nat.le_of_ble_eq_true rfl) (Nat.le_of_ble_eq_true rfl) ?_
    refine lv_if_eq (tgt := 17) hx hb dL_has_10 (by decide) (fun _ => ?_) (fun c9 => absurd (by decide) c9)
    refine lv_lconst (v := 0) hx hb dL_has_17 (by decide) ?_
    refine va_last hx hb hK.1 hP hD hS 0 2 rfl rfl (lx_in (by decide +kernel)) dL_has_18 (fun H locs hP hD hS => ?_)
    rw [lx_upL] at hP hD
    have hP : va_P G vwCl [(o0, .inl (cy 2, 1, .inr (.inl (fun _ => 0))))] H := hP
    have hD : va_D A [(o0, .inl (cy 2, 1, .inr (.inl (fun _ => 0))))] := hD
    refine lv_goto (tgt := 26) hx hb dL_has_19 (by decide) ?_
    refine lv_iconst (v := 0) hx hb dL_has_26 (by decide) ?_
    exact vx_ret (kt_iret hx hb hr hlocks hP hD hS dL_has_27 [0] rfl rfl rfl rfl ⟨0, (fun _ => 0), rfl, rfl, (Or.inr ⟨rfl, hp_1, rfl⟩)⟩)
set_option maxHeartbeats 4000000 in
set_option maxRecDepth 100000 in
theorem c_L_node (l : Launch) (G : va_G) (cy : Nat → ClassId) (sa : Nat → Nat) (hlst : l.stackTraces = false) (h0 : Nat) (r1 : Nat) (r2 : Nat) (r4 : Nat) (r6 : Nat) (r7 : Nat) (r9 : Nat) (r5 : Nat) (o0 : Nat) (p0 : Int32) : Kw l G cy sa yL_node cL_node 4 (some .int) [(0, 9, 12, 24)] ({ frames := 18, cells := 1, slots := 6, locals := 600 } : Room) [.ref h0, .int p0, .ref o0] [(h0, .inr (10, [.ref r1, .int 0, .int (-1), .ref r2, .ref r4, .ref r6, .int (-2), .ref r7, .ref r9])), (r4, .inr (4, [.int 0, .int 0, .int (-1), .ref r5])), (o0, .inl (cy 2, 1, .inr (.inl (fun _ => 0))))] (fun (v : Option Value) (w1 : va_W) => ∃ (k : Int32), ∃ (f1 : Nat → Int64), v = some (.int k) ∧ w1 = [(o0, .inl (cy 2, 1, .inr (.inl f1)))] ∧ ((k = 1 ∧ ¬ okNode p0) ∨ (k = 0 ∧ okNode p0 ∧ f1 0 = (sp_node p0).toInt64))) := by
  refine kw_ofW (by decide) (Nat.le_of_ble_eq_true rfl) ?_
  intro p e s m below meth c A ls hx hb hr hU hown hlocks hml hin hP hK hD hA hS hl hZ htab
  have hown : s.vm.findClass RL = some m.cls := hown
  have hl : lv_has ls 4 [(0, .ref h0), (1, .int p0), (2, .ref o0)] := hl
  refine lv_aload_n hx hb dL_node_0 rfl (lv_at hl 2 rfl) ?_
  refine lv_iconst (v := 0) hx hb dL_node_1 (by decide) ?_
  refine lv_aload_n hx hb dL_node_2 rfl (lv_at hl 0 rfl) ?_
  refine lv_iload_n hx hb dL_node_3 rfl (lv_at hl 1 rfl) ?_
  refine kx_callVH (wc := [(h0, .inr (10, [.ref r1, .int 0, .int (-1), .ref r2, .ref r4, .ref r6, .int (-2), .ref r7, .ref r9])), (r4, .inr (4, [.int 0, .int 0, .int (-1), .ref r5]))]) (wr := [(o0, .inl (cy 2, 1, .inr (.inl (fun _ => 0))))]) (As := [.int p0]) (rest := [.int 0, .ref o0]) (c_X11_node l G cy sa hlst h0 r1 r2 r4 r6 r7 r9 r5 p0) m_X11_node u_1302 hx hb hml hown hU hl.1 hK hP hD hS hA dL_node_4 [0, 1] [2] rfl rfl rfl rfl rfl rfl (Nat.le_of_ble_eq_true rfl) (ci := 10) rfl rfl rfl hZ (fun E9 ce9 q9 H locs hpx hP hD hS hce hcv hcl => ?_) (fun v9 w9 H locs hw hP hD hS => ?_)
  · rcases hpx with ⟨rfl, hx1⟩
    refine vx_catch hown [] (⟨0, 9, 12, 24⟩ : ExceptionTableEntry) [] (by rw [htab]; rfl) (fun z9 h9 => by cases h9) (by decide) (by decide) (hU _ u_1074) (va_Nw.use rfl (hZ.2.2.2.1 (.castable eNS eNS) (by decide +kernel))) hce hcv hcl ?_
    refine W.eq (g2 := F0 m 12 ls [.ref q9]) rfl ?_
    refine W.widen (k := 1) (n := 6) (Nat.le_of_ble_eq_true rfl) (Nat.le_of_ble_eq_true rfl) ?_
    have hP : va_P G vwCl [(o0, .inl (cy 2, 1, .inr (.inl (fun _ => 0))))] H := hP
    have hD : va_D A [(o0, .inl (cy 2, 1, .inr (.inl (fun _ => 0))))] := hD
    refine lv_astore_n (lv' := [(3, .ref q9), (0, .ref h0), (1, .int p0), (2, .ref o0)]) hx hb dL_node_12 rfl hl (by decide) rfl (fun ls hl => ?_)
    refine lv_iconst (v := 1) hx hb dL_node_13 (by decide) ?_
    exact vx_ret (kt_iret hx hb hr hlocks hP hD hS dL_node_14 [0] rfl rfl rfl rfl ⟨1, (fun _ => 0), rfl, rfl, (Or.inl ⟨rfl, hx1⟩)⟩)
  · obtain ⟨x_1, rfl, rfl, hp_2⟩ := hw
    have hP : va_P G vwCl [(o0, .inl (cy 2, 1, .inr (.inl (fun _ => 0))))] H := hP
    have hD : va_D A [(o0, .inl (cy 2, 1, .inr (.inl (fun _ => 0))))] := hD
    refine W.eq (g2 := F0 m 7 ls [.int x_1, .int 0, .ref o0]) rfl ?_
    refine W.widen (k := 1) (n := 6) (Nat.le_of_ble_eq_true rfl) (Nat.le_of_ble_eq_true rfl) ?_
    refine lv_i2l hx hb dL_node_7 rfl ?_
    refine va_last hx hb hK.1 hP hD hS 0 2 rfl rfl (lx_in (by decide +kernel)) dL_node_8 (fun H locs hP hD hS => ?_)
    have hP : va_P G vwCl [(o0, .inl (cy 2, 1, .inr (.inl (vp_updL (fun _ => 0) (0 : Int32).toNatClampNeg ((x_1).toInt64)))))] H := hP
    have hD : va_D A [(o0, .inl (cy 2, 1, .inr (.inl (vp_updL (fun _ => 0) (0 : Int32).toNatClampNeg ((x_1).toInt64)))))] := hD
    refine lv_goto (tgt := 15) hx hb dL_node_9 (by decide) ?_
    refine lv_iconst (v := 0) hx hb dL_node_15 (by decide) ?_
    exact vx_ret (kt_iret hx hb hr hlocks hP hD hS dL_node_16 [0] rfl rfl rfl rfl ⟨0, (vp_updL (fun _ => 0) (0 : Int32).toNatClampNeg ((x_1).toInt64)), rfl, rfl, (Or.inr ⟨rfl, hp_2.1, congrArg Int32.toInt64 hp_2.2⟩)⟩)
set_option maxHeartbeats 4000000 in
set_option maxRecDepth 100000 in
theorem c_L_pebbled (l : Launch) (G : va_G) (cy : Nat → ClassId) (sa : Nat → Nat) (hlst : l.stackTraces = false) (h0 : Nat) (r1 : Nat) (r2 : Nat) (r4 : Nat) (r6 : Nat) (r7 : Nat) (r9 : Nat) (r5 : Nat) (o0 : Nat) (p0 : Int32) : Kw l G cy sa yL_pebbled cL_pebbled 4 (some .int) [(0, 9, 12, 13)] ({ frames := 18, cells := 1, slots := 6, locals := 600 } : Room) [.ref h0, .int p0, .ref o0] [(h0, .inr (10, [.ref r1, .int 0, .int (-1), .ref r2, .ref r4, .ref r6, .int (-2), .ref r7, .ref r9])), (r4, .inr (4, [.int 0, .int 0, .int (-1), .ref r5])), (o0, .inl (cy 2, 1, .inr (.inl (fun _ => 0))))] (fun (v : Option Value) (w1 : va_W) => ∃ (k : Int32), ∃ (f1 : Nat → Int64), v = some (.int k) ∧ w1 = [(o0, .inl (cy 2, 1, .inr (.inl f1)))] ∧ ((k = 1 ∧ ¬ okWidth p0) ∨ (k = 0 ∧ okWidth p0 ∧ f1 0 = (-1)))) := by
  refine kw_ofW (by decide) (Nat.le_of_ble_eq_true rfl) ?_
  intro p e s m below meth c A ls hx hb hr hU hown hlocks hml hin hP hK hD hA hS hl hZ htab
  have hown : s.vm.findClass RL = some m.cls := hown
  have hl : lv_has ls 4 [(0, .ref h0), (1, .int p0), (2, .ref o0)] := hl
  refine lv_aload_n hx hb dL_pebbled_0 rfl (lv_at hl 2 rfl) ?_
  refine lv_iconst (v := 0) hx hb dL_pebbled_1 (by decide) ?_
  refine lv_aload_n hx hb dL_pebbled_2 rfl (lv_at hl 0 rfl) ?_
  refine lv_iload_n hx hb dL_pebbled_3 rfl (lv_at hl 1 rfl) ?_
  refine kx_callVH (wc := [(h0, .inr (10, [.ref r1, .int 0, .int (-1), .ref r2, .ref r4, .ref r6, .int (-2), .ref r7, .ref r9])), (r4, .inr (4, [.int 0, .int 0, .int (-1), .ref r5]))]) (wr := [(o0, .inl (cy 2, 1, .inr (.inl (fun _ => 0))))]) (As := [.int p0]) (rest := [.int 0, .ref o0]) (c_X11_pebbled l G cy sa hlst h0 r1 r2 r4 r6 r7 r9 r5 p0) m_X11_pebbled u_1311 hx hb hml hown hU hl.1 hK hP hD hS hA dL_pebbled_4 [0, 1] [2] rfl rfl rfl rfl rfl rfl (Nat.le_of_ble_eq_true rfl) (ci := 10) rfl rfl rfl hZ (fun E9 ce9 q9 H locs hpx hP hD hS hce hcv hcl => ?_) (fun v9 w9 H locs hw hP hD hS => ?_)
  · rcases hpx with ⟨rfl, hx1⟩
    refine vx_catch hown [] (⟨0, 9, 12, 13⟩ : ExceptionTableEntry) [] (by rw [htab]; rfl) (fun z9 h9 => by cases h9) (by decide) (by decide) (hU _ u_481) (va_Nw.use rfl (hZ.2.2.2.1 (.castable eIA eIA) (by decide +kernel))) hce hcv hcl ?_
    refine W.eq (g2 := F0 m 12 ls [.ref q9]) rfl ?_
    refine W.widen (k := 1) (n := 6) (Nat.le_of_ble_eq_true rfl) (Nat.le_of_ble_eq_true rfl) ?_
    have hP : va_P G vwCl [(o0, .inl (cy 2, 1, .inr (.inl (fun _ => 0))))] H := hP
    have hD : va_D A [(o0, .inl (cy 2, 1, .inr (.inl (fun _ => 0))))] := hD
    refine lv_astore_n (lv' := [(3, .ref q9), (0, .ref h0), (1, .int p0), (2, .ref o0)]) hx hb dL_pebbled_12 rfl hl (by decide) rfl (fun ls hl => ?_)
    refine lv_iconst (v := 1) hx hb dL_pebbled_13 (by decide) ?_
    exact vx_ret (kt_iret hx hb hr hlocks hP hD hS dL_pebbled_14 [0] rfl rfl rfl rfl ⟨1, (fun _ => 0), rfl, rfl, (Or.inl ⟨rfl, hx1⟩)⟩)
  · obtain ⟨rfl, rfl, hp_1⟩ := hw
    have hP : va_P G vwCl [(o0, .inl (cy 2, 1, .inr (.inl (fun _ => 0))))] H := hP
    have hD : va_D A [(o0, .inl (cy 2, 1, .inr (.inl (fun _ => 0))))] := hD
    refine W.eq (g2 := F0 m 7 ls [.int (-1), .int 0, .ref o0]) rfl ?_
    refine W.widen (k := 1) (n := 6) (Nat.le_of_ble_eq_true rfl) (Nat.le_of_ble_eq_true rfl) ?_
    refine lv_i2l (v := (-1)) hx hb dL_pebbled_7 (by decide +kernel) ?_
    refine va_last hx hb hK.1 hP hD hS 0 2 rfl rfl (lx_in (by decide +kernel)) dL_pebbled_8 (fun H locs hP hD hS => ?_)
    have hP : va_P G vwCl [(o0, .inl (cy 2, 1, .inr (.inl (vp_updL (fun _ => 0) (0 : Int32).toNatClampNeg (-1)))))] H := hP
    have hD : va_D A [(o0, .inl (cy 2, 1, .inr (.inl (vp_updL (fun _ => 0) (0 : Int32).toNatClampNeg (-1)))))] := hD
    refine lv_goto (tgt := 15) hx hb dL_pebbled_9 (by decide) ?_
    refine lv_iconst (v := 0) hx hb dL_pebbled_15 (by decide) ?_
    exact vx_ret (kt_iret hx hb hr hlocks hP hD hS dL_pebbled_16 [0] rfl rfl rfl rfl ⟨0, (vp_updL (fun _ => 0) (0 : Int32).toNatClampNeg (-1)), rfl, rfl, (Or.inr ⟨rfl, hp_1, rfl⟩)⟩)
set_option maxHeartbeats 4000000 in
set_option maxRecDepth 100000 in
theorem c_L_stands (l : Launch) (G : va_G) (cy : Nat → ClassId) (sa : Nat → Nat) (hlst : l.stackTraces = false) (h0 : Nat) (r1 : Nat) (r2 : Nat) (r4 : Nat) (r6 : Nat) (r7 : Nat) (r9 : Nat) (r3 : Nat) (o0 : Nat) (p0 : Int32) (p1 : Int32) : Kw l G cy sa yL_stands cL_stands 5 (some .int) [(0, 10, 13, 22)] ({ frames := 18, cells := 1, slots := 6, locals := 600 } : Room) [.ref h0, .int p0, .int p1, .ref o0] [(h0, .inr (10, [.ref r1, .int 0, .int (-1), .ref r2, .ref r4, .ref r6, .int (-2), .ref r7, .ref r9])), (r2, .inr (0, [.ref r3, .int 0, .int 0])), (o0, .inl (cy 2, 1, .inr (.inl (fun _ => 0))))] (fun (v : Option Value) (w1 : va_W) => ∃ (k : Int32), ∃ (f1 : Nat → Int64), v = some (.int k) ∧ w1 = [(o0, .inl (cy 2, 1, .inr (.inl f1)))] ∧ ((k = 1 ∧ ¬ okVar p0) ∨ (k = 0 ∧ okVar p0 ∧ f1 0 = 0))) := by
  refine kw_ofW (by decide) (Nat.le_of_ble_eq_true rfl) ?_
  intro p e s m below meth c A ls hx hb hr hU hown hlocks hml hin hP hK hD hA hS hl hZ htab
  have hown : s.vm.findClass RL = some m.cls := hown
  have hl : lv_has ls 5 [(0, .ref h0), (1, .int p0), (2, .int p1), (3, .ref o0)] := hl
  refine lv_aload_n hx hb dL_stands_0 rfl (lv_at hl 3 rfl) ?_
  refine lv_iconst (v := 0) hx hb dL_stands_1 (by decide) ?_
  refine lv_aload_n hx hb dL_stands_2 rfl (lv_at hl 0 rfl) ?_
  refine lv_iload_n hx hb dL_stands_3 rfl (lv_at hl 1 rfl) ?_
  refine lv_iload_n hx hb dL_stands_4 rfl (lv_at hl 2 rfl) ?_
  refine kx_callVH (wc := [(h0, .inr (10, [.ref r1, .int 0, .int (-1), .ref r2, .ref r4, .ref r6, .int (-2), .ref r7, .ref r9])), (r2, .inr (0, [.ref r3, .int 0, .int 0]))]) (wr := [(o0, .inl (cy 2, 1, .inr (.inl (fun _ => 0))))]) (As := [.int p0, .int p1]) (rest := [.int 0, .ref o0]) (c_X11_stands l G cy sa hlst h0 r1 r2 r4 r6 r7 r9 r3 p0 p1) m_X11_stands u_1495 hx hb hml hown hU hl.1 hK hP hD hS hA dL_stands_5 [0, 1] [2] rfl rfl rfl rfl rfl rfl (Nat.le_of_ble_eq_true rfl) (ci := 10) rfl rfl rfl hZ (fun E9 ce9 q9 H locs hpx hP hD hS hce hcv hcl => ?_) (fun v9 w9 H locs hw hP hD hS => ?_)
  · rcases hpx with ⟨rfl, hx1⟩
    refine vx_catch hown [] (⟨0, 10, 13, 22⟩ : ExceptionTableEntry) [] (by rw [htab]; rfl) (fun z9 h9 => by cases h9) (by decide) (by decide) (hU _ u_1073) (va_Nw.use rfl (hZ.2.2.2.1 (.castable eIO eIO) (by decide +kernel))) hce hcv hcl ?_
    refine W.eq (g2 := F0 m 13 ls [.ref q9]) rfl ?_
    refine W.widen (k := 1) (n := 6) (Nat.le_of_ble_eq_true rfl) (Nat.le_of_ble_eq_true rfl) ?_
    have hP : va_P G vwCl [(o0, .inl (cy 2, 1, .inr (.inl (fun _ => 0))))] H := hP
    have hD : va_D A [(o0, .inl (cy 2, 1, .inr (.inl (fun _ => 0))))] := hD
    refine lv_astore (lv' := [(4, .ref q9), (0, .ref h0), (1, .int p0), (2, .int p1), (3, .ref o0)]) hx hb dL_stands_13 hl (by decide) rfl (fun ls hl => ?_)
    refine lv_iconst (v := 1) hx hb dL_stands_15 (by decide) ?_
    exact vx_ret (kt_iret hx hb hr hlocks hP hD hS dL_stands_16 [0] rfl rfl rfl rfl ⟨1, (fun _ => 0), rfl, rfl, (Or.inl ⟨rfl, hx1⟩)⟩)
  · obtain ⟨rfl, rfl, hp_1⟩ := hw
    have hP : va_P G vwCl [(o0, .inl (cy 2, 1, .inr (.inl (fun _ => 0))))] H := hP
    have hD : va_D A [(o0, .inl (cy 2, 1, .inr (.inl (fun _ => 0))))] := hD
    refine W.eq (g2 := F0 m 8 ls [.int 0, .int 0, .ref o0]) rfl ?_
    refine W.widen (k := 1) (n := 6) (Nat.le_of_ble_eq_true rfl) (Nat.le_of_ble_eq_true rfl) ?_
    refine lv_i2l (v := 0) hx hb dL_stands_8 (by decide +kernel) ?_
    refine va_last hx hb hK.1 hP hD hS 0 2 rfl rfl (lx_in (by decide +kernel)) dL_stands_9 (fun H locs hP hD hS => ?_)
    rw [lx_upL] at hP hD
    have hP : va_P G vwCl [(o0, .inl (cy 2, 1, .inr (.inl (fun _ => 0))))] H := hP
    have hD : va_D A [(o0, .inl (cy 2, 1, .inr (.inl (fun _ => 0))))] := hD
    refine lv_goto (tgt := 17) hx hb dL_stands_10 (by decide) ?_
    refine lv_iconst (v := 0) hx hb dL_stands_17 (by decide) ?_
    exact vx_ret (kt_iret hx hb hr hlocks hP hD hS dL_stands_18 [0] rfl rfl rfl rfl ⟨0, (fun _ => 0), rfl, rfl, (Or.inr ⟨rfl, hp_1, rfl⟩)⟩)
