set_option maxHeartbeats 4000000 in
set_option maxRecDepth 100000 in
theorem c_X4_isNode (l : Launch) (G : va_G) (cy : Nat → ClassId) (r4 : Nat) (r5 : Nat) (p0 : Int32) : Kt l G cy yX4_isNode cX4_isNode 2 (some .boolean) ({ frames := 10, cells := 0, slots := 0, locals := 200 } : Room) [.ref r4, .int p0] [(r4, .inr (4, [.int 0, .int 0, .int (-1), .ref r5]))] (fun (v : Option Value) (w1 : va_W) => v = some (.int 0) ∧ w1 = [(r4, .inr (4, [.int 0, .int 0, .int (-1), .ref r5]))]) := by
  refine kt_ofW (by decide) (Nat.le_of_ble_eq_true rfl) ?_
  intro p e s m below meth c A ls hx hb hr hU hown hlocks hml hin hP hK hD hA hS hl
  have hown : s.vm.findClass RX4 = some m.cls := hown
  have hl : lv_has ls 2 [(0, .ref r4), (1, .int p0)] := hl
  refine lv_aload_n hx hb dX4_isNode_0 rfl (lv_at hl 0 rfl) ?_
  refine va_get (D := G) (ci := 4) (v := .int 0) (C := RX4) (T := TX4) (N := 4) hx hb hU in_X4 hown hK.1 hP 0 rfl rfl 0 (by decide) (hU _ u_196) (fun _ h9 => h9) rfl dX4_isNode_1 ?_
  refine lv_iload_n hx hb dX4_isNode_4 rfl (lv_at hl 1 rfl) ?_
  refine lv_iushr (v := 0) hx hb dX4_isNode_5 (lx_iushr0 _) ?_
  refine lv_iconst (v := 1) hx hb dX4_isNode_6 (by decide) ?_
  refine lv_iand hx hb dX4_isNode_7 (lx_top (y := 0) (by decide +kernel) ?_)
  refine lv_if_eq (tgt := 15) hx hb dX4_isNode_8 (by decide) (fun _ => ?_) (fun c9 => absurd (by decide) c9)
  refine lv_iconst (v := 0) hx hb dX4_isNode_15 (by decide) ?_
  exact kt_zret hx hb hr hlocks hP hD hS (by first | rfl | decide | exact rfl) dX4_isNode_16 [0] rfl rfl rfl rfl ⟨rfl, rfl⟩
set_option maxHeartbeats 4000000 in
set_option maxRecDepth 100000 in
theorem c_X11_node (l : Launch) (G : va_G) (cy : Nat → ClassId) (sa : Nat → Nat) (hlst : l.stackTraces = false) (h0 : Nat) (r1 : Nat) (r2 : Nat) (r4 : Nat) (r6 : Nat) (r7 : Nat) (r9 : Nat) (r5 : Nat) (p0 : Int32) : Kx l G cy sa yX11_node cX11_node 3 (some .int) ({ frames := 12, cells := 1, slots := 6, locals := 300 } : Room) [.ref h0, .int p0] [(h0, .inr (10, [.ref r1, .int 0, .int (-1), .ref r2, .ref r4, .ref r6, .int (-2), .ref r7, .ref r9])), (r4, .inr (4, [.int 0, .int 0, .int (-1), .ref r5]))] (fun (v : Option Value) (w1 : va_W) => ∃ (r : Int32), v = some (.int r) ∧ w1 = [] ∧ (okNode p0 ∧ r = sp_node p0)) (fun E => E = eNS ∧ ¬ okNode p0) := by
  refine kx_ofW (by decide) (Nat.le_of_ble_eq_true rfl) ?_
  intro p e s m below meth c A ls hx hb hr hU hown hlocks hml hin hP hK hD hA hS hl hZ hnt
  have hown : s.vm.findClass RX11 = some m.cls := hown
  have hl : lv_has ls 3 [(0, .ref h0), (1, .int p0)] := hl
  refine lv_iload_n hx hb dX11_node_0 rfl (lv_at hl 1 rfl) ?_
  by_cases c_1 : p0 = 0
  · refine lv_tableIn (off := 27) (tgt := 28) hx hb dX11_node_1 (by rw [c_1]; decide) (by rw [c_1]; decide) (by rw [c_1]; rfl) (by decide) ?_
    refine lv_aload_n hx hb dX11_node_28 rfl (lv_at hl 0 rfl) ?_
    refine va_get (D := G) (ci := 10) (v := .ref r4) (C := RX11) (T := TX11) (N := 9) hx hb hU in_X11 hown hK.1 hP 0 rfl rfl 4 (by decide) (hU _ u_254) (fun _ h9 => h9) rfl dX11_node_29 ?_
    refine va_get (D := G) (ci := 4) (v := .int 0) (C := RX4) (T := TX4) (N := 4) hx hb hU in_X4 hown hK.1 hP 1 rfl rfl 0 (by decide) (hU _ u_197) (fun _ h9 => h9) rfl dX11_node_32 ?_
    exact vx_ret (kt_iret hx hb hr hlocks hP hD hS dX11_node_35 [] rfl rfl rfl rfl ⟨0, rfl, rfl, ⟨(by simp [okNode, c_1]), (by simp [sp_node, c_1])⟩⟩)
  by_cases c_2 : p0 = 1
  · refine lv_tableIn (off := 35) (tgt := 36) hx hb dX11_node_1 (by rw [c_2]; decide) (by rw [c_2]; decide) (by rw [c_2]; rfl) (by decide) ?_
    refine lv_aload_n hx hb dX11_node_36 rfl (lv_at hl 0 rfl) ?_
    refine va_get (D := G) (ci := 10) (v := .ref r4) (C := RX11) (T := TX11) (N := 9) hx hb hU in_X11 hown hK.1 hP 0 rfl rfl 4 (by decide) (hU _ u_254) (fun _ h9 => h9) rfl dX11_node_37 ?_
    refine va_get (D := G) (ci := 4) (v := .int 0) (C := RX4) (T := TX4) (N := 4) hx hb hU in_X4 hown hK.1 hP 1 rfl rfl 1 (by decide) (hU _ u_199) (fun _ h9 => h9) rfl dX11_node_40 ?_
    exact vx_ret (kt_iret hx hb hr hlocks hP hD hS dX11_node_43 [] rfl rfl rfl rfl ⟨0, rfl, rfl, ⟨(by simp [okNode, c_1, c_2]), (by simp [sp_node, c_1, c_2])⟩⟩)
  by_cases c_3 : p0 = 2
  · refine lv_tableIn (off := 43) (tgt := 44) hx hb dX11_node_1 (by rw [c_3]; decide) (by rw [c_3]; decide) (by rw [c_3]; rfl) (by decide) ?_
    refine lv_aload_n hx hb dX11_node_44 rfl (lv_at hl 0 rfl) ?_
    refine va_get (D := G) (ci := 10) (v := .ref r4) (C := RX11) (T := TX11) (N := 9) hx hb hU in_X11 hown hK.1 hP 0 rfl rfl 4 (by decide) (hU _ u_254) (fun _ h9 => h9) rfl dX11_node_45 ?_
    refine va_get (D := G) (ci := 4) (v := .int (-1)) (C := RX4) (T := TX4) (N := 4) hx hb hU in_X4 hown hK.1 hP 1 rfl rfl 2 (by decide) (hU _ u_202) (fun _ h9 => h9) rfl dX11_node_48 ?_
    exact vx_ret (kt_iret hx hb hr hlocks hP hD hS dX11_node_51 [] rfl rfl rfl rfl ⟨(-1), rfl, rfl, ⟨(by simp [okNode, c_1, c_2, c_3]), (by simp [sp_node, c_1, c_2, c_3])⟩⟩)
  refine lv_tableOut (tgt := 52) hx hb dX11_node_1 (lx_tout (n := 2) (fun k9 h9 => by rcases (show k9 = 0 ∨ k9 = 1 ∨ k9 = 2 by omega) with rfl | rfl | rfl <;> assumption) (by decide)) (by decide) ?_
  refine lv_iload_n hx hb dX11_node_52 rfl (lv_at hl 1 rfl) ?_
  refine lv_bipush (v := 10) hx hb dX11_node_53 (by decide) ?_
  refine lv_isub hx hb dX11_node_55 ?_
  refine lv_istore_n (lv' := [(2, .int (p0 - 10)), (0, .ref h0), (1, .int p0)]) hx hb dX11_node_56 rfl hl (by decide) rfl (fun ls hl => ?_)
  refine lv_iload_n hx hb dX11_node_57 rfl (lv_at hl 0 rfl) ?_
  refine lv_if_lt (tgt := 78) hx hb dX11_node_58 (by decide) (fun c_4 => ?_) (fun c_4 => ?_)
  · exact kx_throwNW (text := "another what, or no node") hx hb hlst hown hU u_1099 u_145 (by decide) at_145 hZ hS (by rw [hml]; exact hl.1) dX11_node_78 dX11_node_81 dX11_node_82 dX11_node_85 dX11_node_88 hnt rfl rfl rfl rfl hlocks ⟨rfl, (by simp [okNode, c_1, c_2, c_3, c_4])⟩
  · refine lv_iload_n hx hb dX11_node_61 rfl (lv_at hl 0 rfl) ?_
    refine lv_bipush (v := 6) hx hb dX11_node_62 (by decide) ?_
    refine lv_icmp_ge (tgt := 78) hx hb dX11_node_64 (by decide) (fun c_5 => ?_) (fun c_5 => ?_)
    · exact kx_throwNW (text := "another what, or no node") hx hb hlst hown hU u_1099 u_145 (by decide) at_145 hZ hS (by rw [hml]; exact hl.1) dX11_node_78 dX11_node_81 dX11_node_82 dX11_node_85 dX11_node_88 hnt rfl rfl rfl rfl hlocks ⟨rfl, (by simp [okNode, c_1, c_2, c_3, c_4, c_5])⟩
    · refine lv_aload_n hx hb dX11_node_67 rfl (lv_at hl 1 rfl) ?_
      refine va_get (D := G) (ci := 10) (v := .ref r4) (C := RX11) (T := TX11) (N := 9) hx hb hU in_X11 hown hK.1 hP 0 rfl rfl 4 (by decide) (hU _ u_254) (fun _ h9 => h9) rfl dX11_node_68 ?_
      refine lv_iload_n hx hb dX11_node_71 rfl (lv_at hl 0 rfl) ?_
      refine kt_callV (wc := [(r4, .inr (4, [.int 0, .int 0, .int (-1), .ref r5]))]) (wr := [(h0, .inr (10, [.ref r1, .int 0, .int (-1), .ref r2, .ref r4, .ref r6, .int (-2), .ref r7, .ref r9]))]) (As := [.int (p0 - 10)]) (rest := []) (c_X4_isNode l G cy r4 r5 (p0 - 10)) m_X4_isNode u_1306 hx hb hml hown hU hl.1 hK hP hD hS hA dX11_node_72 [1] [0] rfl rfl rfl rfl rfl rfl (Nat.le_of_ble_eq_true rfl) (ci := 4) rfl rfl rfl (fun v9 w9 H locs hw hP hD hS => ?_)
      obtain ⟨rfl, rfl⟩ := hw
      have hP : va_P G vwCl [(h0, .inr (10, [.ref r1, .int 0, .int (-1), .ref r2, .ref r4, .ref r6, .int (-2), .ref r7, .ref r9])), (r4, .inr (4, [.int 0, .int 0, .int (-1), .ref r5]))] H := hP
      have hD : va_D A [(h0, .inr (10, [.ref r1, .int 0, .int (-1), .ref r2, .ref r4, .ref r6, .int (-2), .ref r7, .ref r9])), (r4, .inr (4, [.int 0, .int 0, .int (-1), .ref r5]))] := hD
      refine W.eq (g2 := F0 m 75 ls [.int 0]) rfl ?_
      refine W.widen (k := 0) (n := 0) (Nat.le_of_ble_eq_true rfl) (Nat.le_of_ble_eq_true rfl) ?_
      refine lv_if_ne (tgt := 89) hx hb dX11_node_75 (by decide) (fun c9 => absurd (by decide) c9) (fun _ => ?_)
      exact kx_throwNW (text := "another what, or no node") hx hb hlst hown hU u_1099 u_145 (by decide) at_145 hZ hS (by rw [hml]; exact hl.1) dX11_node_78 dX11_node_81 dX11_node_82 dX11_node_85 dX11_node_88 hnt rfl rfl rfl rfl hlocks ⟨rfl, (by simp [okNode, c_1, c_2, c_3, c_4, c_5])⟩
set_option maxHeartbeats 4000000 in
set_option maxRecDepth 100000 in
theorem c_X11_model (l : Launch) (G : va_G) (cy : Nat → ClassId) (h0 : Nat) (r1 : Nat) (r2 : Nat) (r4 : Nat) (r6 : Nat) (r7 : Nat) (r9 : Nat) (r3 : Nat) (p0 : Int32) : Kt l G cy yX11_model cX11_model 6 (some .int) ({ frames := 12, cells := 0, slots := 0, locals := 300 } : Room) [.ref h0, .int p0] [(h0, .inr (10, [.ref r1, .int 0, .int (-1), .ref r2, .ref r4, .ref r6, .int (-2), .ref r7, .ref r9])), (r2, .inr (0, [.ref r3, .int 0, .int 0]))] (fun (v : Option Value) (w1 : va_W) => ∃ (r : Int32), v = some (.int r) ∧ w1 = [] ∧ (r = sp_model p0)) := by
  refine kt_ofW (by decide) (Nat.le_of_ble_eq_true rfl) ?_
  intro p e s m below meth c A ls hx hb hr hU hown hlocks hml hin hP hK hD hA hS hl
  have hown : s.vm.findClass RX11 = some m.cls := hown
  have hl : lv_has ls 6 [(0, .ref h0), (1, .int p0)] := hl
  refine lv_aload_n hx hb dX11_model_0 rfl (lv_at hl 0 rfl) ?_
  refine va_get (D := G) (ci := 10) (v := .ref r2) (C := RX11) (T := TX11) (N := 9) hx hb hU in_X11 hown hK.1 hP 0 rfl rfl 3 (by decide) (hU _ u_253) (fun _ h9 => h9) rfl dX11_model_1 ?_
  refine lv_iconst (v := (-1)) hx hb dX11_model_4 (by decide) ?_
  refine kt_callV (wc := [(r2, .inr (0, [.ref r3, .int 0, .int 0]))]) (wr := [(h0, .inr (10, [.ref r1, .int 0, .int (-1), .ref r2, .ref r4, .ref r6, .int (-2), .ref r7, .ref r9]))]) (As := [.int (-1)]) (rest := []) (c_X0_modelsWithout l G cy r2 r3 (-1)) m_X0_modelsWithout u_298 hx hb hml hown hU hl.1 hK hP hD hS hA dX11_model_5 [1] [0] rfl rfl rfl rfl rfl rfl (Nat.le_of_ble_eq_true rfl) (ci := 0) rfl rfl rfl (fun v9 w9 H locs hw hP hD hS => ?_)
  obtain ⟨rfl, rfl⟩ := hw
  have hP : va_P G vwCl [(h0, .inr (10, [.ref r1, .int 0, .int (-1), .ref r2, .ref r4, .ref r6, .int (-2), .ref r7, .ref r9])), (r2, .inr (0, [.ref r3, .int 0, .int 0]))] H := hP
  have hD : va_D A [(h0, .inr (10, [.ref r1, .int 0, .int (-1), .ref r2, .ref r4, .ref r6, .int (-2), .ref r7, .ref r9])), (r2, .inr (0, [.ref r3, .int 0, .int 0]))] := hD
  refine W.eq (g2 := F0 m 8 ls [.long (-1)]) rfl ?_
  refine W.widen (k := 0) (n := 0) (Nat.le_of_ble_eq_true rfl) (Nat.le_of_ble_eq_true rfl) ?_
  refine lv_lstore_n (lv' := [(2, .long (-1)), (0, .ref h0), (1, .int p0)]) hx hb dX11_model_8 rfl hl (by decide) rfl (fun ls hl => ?_)
  refine lv_iload_n hx hb dX11_model_9 rfl (lv_at hl 2 rfl) ?_
  refine lv_iconst (v := (-1)) hx hb dX11_model_10 (by decide) ?_
  refine lv_icmp_ne (tgt := 19) hx hb dX11_model_11 (by decide) (fun c_1 => ?_) (fun c_1 => ?_)
  · refine lv_iconst (v := 0) hx hb dX11_model_19 (by decide) ?_
    refine lv_istore (lv' := [(4, .int 0), (2, .long (-1)), (0, .ref h0), (1, .int p0)]) hx hb dX11_model_20 hl (by decide) rfl (fun ls hl => ?_)
    refine lv_iconst (v := 0) hx hb dX11_model_22 (by decide) ?_
    refine lv_istore (lv' := [(5, .int 0), (4, .int 0), (2, .long (-1)), (0, .ref h0), (1, .int p0)]) hx hb dX11_model_23 hl (by decide) rfl (fun ls hl => ?_)
    refine (fun (hloop : ∀ (n i : Nat), i + n = 64 → (∀ j, j < i → ¬ nI j = p0) → ∀ (H : Heap) (locs : List Loc) (ls : Array Slot), va_P G vwCl [(h0, .inr (10, [.ref r1, .int 0, .int (-1), .ref r2, .ref r4, .ref r6, .int (-2), .ref r7, .ref r9])), (r2, .inr (0, [.ref r3, .int 0, .int 0]))] H → va_D A [(h0, .inr (10, [.ref r1, .int 0, .int (-1), .ref r2, .ref r4, .ref r6, .int (-2), .ref r7, .ref r9])), (r2, .inr (0, [.ref r3, .int 0, .int 0]))] → va_S A s.heap H locs → lv_has ls 6 [(5, .int (nI i)), (4, .int (nI i)), (0, .ref h0), (1, .int p0), (2, .long (-1))] → W p l e _ s m _ below meth c H locs _ _ _ (F0 m 25 ls [])) => hloop 64 0 rfl (fun j hj => absurd hj (Nat.not_lt_zero j)) _ _ _ hP hD hS (lv_sub hl [0, 1, 3, 4, 2] rfl)) ?_
    intro n
    induction n with
    | zero =>
      intro i hi0 hex H locs ls hP hD hS hl
      obtain rfl : i = 64 := by omega
      refine lv_iload hx hb dX11_model_25 (lv_at hl 0 rfl) ?_
      refine lv_bipush (v := 64) hx hb dX11_model_27 (by decide) ?_
      refine lv_icmp_ge (tgt := 61) hx hb dX11_model_29 (by decide) (fun _ => ?_) (fun c9 => absurd (by decide) c9)
      refine lv_iconst (v := (-1)) hx hb dX11_model_61 (by decide) ?_
      exact kt_iret hx hb hr hlocks hP hD hS dX11_model_62 [] rfl rfl rfl rfl ⟨(-1), rfl, rfl, (sp_model_out c_1 hex)⟩
    | succ n ih =>
      intro i hi0 hex H locs ls hP hD hS hl
      refine lv_iload hx hb dX11_model_25 (lv_at hl 0 rfl) ?_
      refine lv_bipush (v := 64) hx hb dX11_model_27 (by decide) ?_
      refine lv_icmp_ge (tgt := 61) hx hb dX11_model_29 (by decide) (fun c9 => absurd c9 (nI_ge (b := 64) (by omega) (by decide))) (fun _ => ?_)
      refine lv_lload_n hx hb dX11_model_32 rfl (lv_at hl 4 rfl) ?_
      refine lv_iload hx hb dX11_model_33 (lv_at hl 0 rfl) ?_
      refine lv_lushr hx hb dX11_model_35 rfl ?_
      refine lv_lconst (v := 1) hx hb dX11_model_36 (by decide) ?_
      refine lv_land hx hb dX11_model_37 (lx_topl (y := 1) (lx_m1bit i (by omega)) ?_)
      refine lv_lconst (v := 0) hx hb dX11_model_38 (by decide) ?_
      refine W.lcmp hx hb dX11_model_39 (lx_top (y := 1) (by decide +kernel) ?_)
      refine lv_if_eq (tgt := 55) hx hb dX11_model_40 (by decide) (fun c9 => absurd c9 (by decide)) (fun _ => ?_)
      refine lv_iload hx hb dX11_model_43 (lv_at hl 1 rfl) ?_
      refine lv_iload_n hx hb dX11_model_45 rfl (lv_at hl 3 rfl) ?_
      refine lv_icmp_ne (tgt := 52) hx hb dX11_model_46 (by decide) (fun c_2 => ?_) (fun c_2 => ?_)
      · refine lv_iinc (v := nI (i + 1)) (lv' := [(4, .int (nI (i + 1))), (5, .int (nI i)), (0, .ref h0), (1, .int p0), (2, .long (-1))]) hx hb dX11_model_52 hl (k := 1) rfl (nI_1 i) (by decide) rfl (fun ls hl => ?_)
        refine lv_iinc (v := nI (i + 1)) (lv' := [(5, .int (nI (i + 1))), (4, .int (nI (i + 1))), (0, .ref h0), (1, .int p0), (2, .long (-1))]) hx hb dX11_model_55 hl (k := 1) rfl (nI_1 i) (by decide) rfl (fun ls hl => ?_)
        refine lv_goto (tgt := 25) hx hb dX11_model_58 (by decide) ?_
        exact ih (i + 1) (by omega) (fun j hj => (Nat.lt_succ_iff_lt_or_eq.mp hj).elim (hex j) (fun e9 => by rw [e9]; exact c_2)) _ _ _ hP hD hS (lv_sub hl [0, 1, 2, 3, 4] rfl)
      · refine lv_iload hx hb dX11_model_49 (lv_at hl 0 rfl) ?_
        exact kt_iret hx hb hr hlocks hP hD hS dX11_model_51 [] rfl rfl rfl rfl ⟨(nI i), rfl, rfl, (sp_model_hit (by omega) c_1 c_2)⟩
  · refine lv_lload_n hx hb dX11_model_14 rfl (lv_at hl 0 rfl) ?_
    refine kt_callS (wc := []) (wr := [(h0, .inr (10, [.ref r1, .int 0, .int (-1), .ref r2, .ref r4, .ref r6, .int (-2), .ref r7, .ref r9])), (r2, .inr (0, [.ref r3, .int 0, .int 0]))]) (As := [.long (-1)]) (rest := []) (c_J13_bitCount_95d88 l G cy ) m_J13_bitCount_95d88 u_303 hx hb hml hown hU hl.1 hK hP hD hS hA dX11_model_15 [] [0, 1] rfl rfl rfl rfl rfl rfl (Nat.le_of_ble_eq_true rfl) (fun v9 w9 H locs hw hP hD hS => ?_)
    obtain ⟨rfl, rfl⟩ := hw
    have hP : va_P G vwCl [(h0, .inr (10, [.ref r1, .int 0, .int (-1), .ref r2, .ref r4, .ref r6, .int (-2), .ref r7, .ref r9])), (r2, .inr (0, [.ref r3, .int 0, .int 0]))] H := hP
    have hD : va_D A [(h0, .inr (10, [.ref r1, .int 0, .int (-1), .ref r2, .ref r4, .ref r6, .int (-2), .ref r7, .ref r9])), (r2, .inr (0, [.ref r3, .int 0, .int 0]))] := hD
    refine W.eq (g2 := F0 m 18 ls [.int 64]) rfl ?_
    refine W.widen (k := 0) (n := 0) (Nat.le_of_ble_eq_true rfl) (Nat.le_of_ble_eq_true rfl) ?_
    exact kt_iret hx hb hr hlocks hP hD hS dX11_model_18 [] rfl rfl rfl rfl ⟨64, rfl, rfl, (by simp [sp_model, c_1])⟩
