set_option maxHeartbeats 4000000 in
set_option maxRecDepth 100000 in
theorem c_X12_many (l : Launch) (G : va_G) (cy : Nat → ClassId)  : Kt l G cy yX12_many cX12_many 4 (some .int) ({ frames := 10, cells := 0, slots := 0, locals := 200 } : Room) [.long (-1)] [] (fun (v : Option Value) (w1 : va_W) => v = some (.int 64) ∧ w1 = []) := by
  refine kt_ofW (by decide) (Nat.le_of_ble_eq_true rfl) ?_
  intro p e s m below meth c A ls hx hb hr hU hown hlocks hml hin hP hK hD hA hS hl
  have hown : s.vm.findClass RX12 = some m.cls := hown
  have hl : lv_has ls 4 [(0, .long (-1))] := hl
  refine lv_iconst (v := 0) hx hb dX12_many_0 (by decide) ?_
  refine lv_istore_n (lv' := [(2, .int 0), (0, .long (-1))]) hx hb dX12_many_1 rfl hl (by decide) rfl (fun ls hl => ?_)
  refine lv_iconst (v := 0) hx hb dX12_many_2 (by decide) ?_
  refine lv_istore_n (lv' := [(3, .int 0), (2, .int 0), (0, .long (-1))]) hx hb dX12_many_3 rfl hl (by decide) rfl (fun ls hl => ?_)
  refine (fun (hloop : ∀ (n i : Nat), i + n = 64 → ∀ (H : Heap) (locs : List Loc) (ls : Array Slot), va_P G vwCl [] H → va_D A [] → va_S A s.heap H locs → lv_has ls 4 [(3, .int (nI i)), (2, .int (nI i)), (0, .long (-1))] → W p l e _ s m _ below meth c H locs _ _ _ (F0 m 4 ls [])) => hloop 64 0 rfl _ _ _ hP hD hS (lv_sub hl [0, 1, 2] rfl)) ?_
  intro n
  induction n with
  | zero =>
    intro i hi0 H locs ls hP hD hS hl
    obtain rfl : i = 64 := by omega
    refine lv_iload_n hx hb dX12_many_4 rfl (lv_at hl 0 rfl) ?_
    refine lv_bipush (v := 64) hx hb dX12_many_5 (by decide) ?_
    refine lv_icmp_ge (tgt := 25) hx hb dX12_many_7 (by decide) (fun _ => ?_) (fun c9 => absurd (by decide) c9)
    refine lv_iload_n hx hb dX12_many_25 rfl (lv_at hl 1 rfl) ?_
    exact kt_iret hx hb hr hlocks hP hD hS dX12_many_26 [] rfl rfl rfl rfl ⟨rfl, rfl⟩
  | succ n ih =>
    intro i hi0 H locs ls hP hD hS hl
    refine lv_iload_n hx hb dX12_many_4 rfl (lv_at hl 0 rfl) ?_
    refine lv_bipush (v := 64) hx hb dX12_many_5 (by decide) ?_
    refine lv_icmp_ge (tgt := 25) hx hb dX12_many_7 (by decide) (fun c9 => absurd c9 (nI_ge (b := 64) (by omega) (by decide))) (fun _ => ?_)
    refine lv_iload_n hx hb dX12_many_10 rfl (lv_at hl 1 rfl) ?_
    refine lv_lload_n hx hb dX12_many_11 rfl (lv_at hl 2 rfl) ?_
    refine lv_iload_n hx hb dX12_many_12 rfl (lv_at hl 0 rfl) ?_
    refine lv_lshr hx hb dX12_many_13 rfl ?_
    refine lv_lconst (v := 1) hx hb dX12_many_14 (by decide) ?_
    refine lv_land hx hb dX12_many_15 (lx_topl (y := 1) (lx_sbit i (by omega)) ?_)
    refine lv_l2i (v := 1) hx hb dX12_many_16 (by decide) ?_
    refine lv_iadd hx hb dX12_many_17 (lx_top (y := nI (i + 1)) (nI_1 i) ?_)
    refine lv_istore_n (lv' := [(2, .int (nI (i + 1))), (3, .int (nI i)), (0, .long (-1))]) hx hb dX12_many_18 rfl hl (by decide) rfl (fun ls hl => ?_)
    refine lv_iinc (v := nI (i + 1)) (lv' := [(3, .int (nI (i + 1))), (2, .int (nI (i + 1))), (0, .long (-1))]) hx hb dX12_many_19 hl (k := 1) rfl (nI_1 i) (by decide) rfl (fun ls hl => ?_)
    refine lv_goto (tgt := 4) hx hb dX12_many_22 (by decide) ?_
    exact ih (i + 1) (by omega) _ _ _ hP hD hS (lv_sub hl [0, 1, 2] rfl)
set_option maxHeartbeats 4000000 in
set_option maxRecDepth 100000 in
theorem c_X12_models (l : Launch) (G : va_G) (cy : Nat → ClassId) (h0 : Nat) (a1 : Nat) (a2 : Nat) (a3 : Nat) (a4 : Nat) (a5 : Nat) (a6 : Nat) (a7 : Nat) (a8 : Nat) (a9 : Nat) (a10 : Nat) (a11 : Nat) (a12 : Nat) (a13 : Nat) (a14 : Nat) (a15 : Nat) (a16 : Nat) (a17 : Nat) (a18 : Nat) (p0 : Int32) : Kt l G cy yX12_models cX12_models 5 (some .long) ({ frames := 10, cells := 0, slots := 0, locals := 200 } : Room) [.ref h0, .int p0] [(h0, .inr (11, [.int 0, .ref a1, .int 0, .ref a2, .int 0, .int 0, .int 0, .int 0, .int (-1), .ref a3, .ref a4, .int 0, .int 0, .int 0, .ref a5, .ref a6, .int 0, .int (-1), .int 0, .int 0, .ref a7, .ref a8, .ref a9, .ref a10, .int 0, .int 0, .ref a11, .ref a12, .int 0, .int 0, .ref a13, .ref a14, .ref a15, .int 0, .int 0, .ref a16, .ref a17, .ref a18]))] (fun (v : Option Value) (w1 : va_W) => v = some (.long (-1)) ∧ w1 = [(h0, .inr (11, [.int 0, .ref a1, .int 0, .ref a2, .int 0, .int 0, .int 0, .int 0, .int (-1), .ref a3, .ref a4, .int 0, .int 0, .int 0, .ref a5, .ref a6, .int 0, .int (-1), .int 0, .int 0, .ref a7, .ref a8, .ref a9, .ref a10, .int 0, .int 0, .ref a11, .ref a12, .int 0, .int 0, .ref a13, .ref a14, .ref a15, .int 0, .int 0, .ref a16, .ref a17, .ref a18]))]) := by
  refine kt_ofW (by decide) (Nat.le_of_ble_eq_true rfl) ?_
  intro p e s m below meth c A ls hx hb hr hU hown hlocks hml hin hP hK hD hA hS hl
  have hown : s.vm.findClass RX12 = some m.cls := hown
  have hl : lv_has ls 5 [(0, .ref h0), (1, .int p0)] := hl
  refine lv_ldc2 hx hb hown (hU _ u_1829) dX12_models_0 ?_
  refine lv_lstore_n (lv' := [(2, .long (-1)), (0, .ref h0), (1, .int p0)]) hx hb dX12_models_3 rfl hl (by decide) rfl (fun ls hl => ?_)
  refine lv_iconst (v := 0) hx hb dX12_models_4 (by decide) ?_
  refine lv_istore (lv' := [(4, .int 0), (2, .long (-1)), (0, .ref h0), (1, .int p0)]) hx hb dX12_models_5 hl (by decide) rfl (fun ls hl => ?_)
  refine lv_iload hx hb dX12_models_7 (lv_at hl 0 rfl) ?_
  refine lv_aload_n hx hb dX12_models_9 rfl (lv_at hl 2 rfl) ?_
  refine va_get (D := G) (ci := 11) (v := .int 0) (C := RX12) (T := TX12) (N := 38) hx hb hU in_X12 hown hK.1 hP 0 rfl rfl 11 (by decide) (hU _ u_1516) (fun _ h9 => h9) rfl dX12_models_10 ?_
  refine lv_icmp_ge (tgt := 37) hx hb dX12_models_13 (by decide) (fun _ => ?_) (fun c9 => absurd (by decide) c9)
  refine lv_lload_n hx hb dX12_models_37 rfl (lv_at hl 1 rfl) ?_
  exact kt_lret hx hb hr hlocks hP hD hS dX12_models_38 [0] rfl rfl rfl rfl ⟨rfl, rfl⟩
set_option maxHeartbeats 4000000 in
set_option maxRecDepth 100000 in
theorem c_X12_model (l : Launch) (G : va_G) (cy : Nat → ClassId) (h0 : Nat) (a1 : Nat) (a2 : Nat) (a3 : Nat) (a4 : Nat) (a5 : Nat) (a6 : Nat) (a7 : Nat) (a8 : Nat) (a9 : Nat) (a10 : Nat) (a11 : Nat) (a12 : Nat) (a13 : Nat) (a14 : Nat) (a15 : Nat) (a16 : Nat) (a17 : Nat) (a18 : Nat) (p0 : Int32) : Kt l G cy yX12_model cX12_model 6 (some .int) ({ frames := 12, cells := 0, slots := 0, locals := 300 } : Room) [.ref h0, .int p0] [(h0, .inr (11, [.int 0, .ref a1, .int 0, .ref a2, .int 0, .int 0, .int 0, .int 0, .int (-1), .ref a3, .ref a4, .int 0, .int 0, .int 0, .ref a5, .ref a6, .int 0, .int (-1), .int 0, .int 0, .ref a7, .ref a8, .ref a9, .ref a10, .int 0, .int 0, .ref a11, .ref a12, .int 0, .int 0, .ref a13, .ref a14, .ref a15, .int 0, .int 0, .ref a16, .ref a17, .ref a18]))] (fun (v : Option Value) (w1 : va_W) => ∃ (r : Int32), v = some (.int r) ∧ w1 = [] ∧ (r = sp_model p0)) := by
  refine kt_ofW (by decide) (Nat.le_of_ble_eq_true rfl) ?_
  intro p e s m below meth c A ls hx hb hr hU hown hlocks hml hin hP hK hD hA hS hl
  have hown : s.vm.findClass RX12 = some m.cls := hown
  have hl : lv_has ls 6 [(0, .ref h0), (1, .int p0)] := hl
  refine lv_aload_n hx hb dX12_model_0 rfl (lv_at hl 0 rfl) ?_
  refine lv_iconst (v := 0) hx hb dX12_model_1 (by decide) ?_
  refine va_put (D := G) (ci := 11) (v := .int 0) (ty := .int) (C := RX12) (T := TX12) (N := 38) hx hb hU in_X12 tyX12 tyX12_ok nmX12 hown hK.1 hP hD hS 0 rfl rfl 0 (by decide) (hU _ u_1505) (fun _ h9 => h9) rfl (by decide +kernel) rfl rfl (Nat.le_of_ble_eq_true rfl) dX12_model_2 (fun H locs hP hD hS => ?_)
  have hP : va_P G vwCl [(h0, .inr (11, [.int 0, .ref a1, .int 0, .ref a2, .int 0, .int 0, .int 0, .int 0, .int (-1), .ref a3, .ref a4, .int 0, .int 0, .int 0, .ref a5, .ref a6, .int 0, .int (-1), .int 0, .int 0, .ref a7, .ref a8, .ref a9, .ref a10, .int 0, .int 0, .ref a11, .ref a12, .int 0, .int 0, .ref a13, .ref a14, .ref a15, .int 0, .int 0, .ref a16, .ref a17, .ref a18]))] H := hP
  have hD : va_D A [(h0, .inr (11, [.int 0, .ref a1, .int 0, .ref a2, .int 0, .int 0, .int 0, .int 0, .int (-1), .ref a3, .ref a4, .int 0, .int 0, .int 0, .ref a5, .ref a6, .int 0, .int (-1), .int 0, .int 0, .ref a7, .ref a8, .ref a9, .ref a10, .int 0, .int 0, .ref a11, .ref a12, .int 0, .int 0, .ref a13, .ref a14, .ref a15, .int 0, .int 0, .ref a16, .ref a17, .ref a18]))] := hD
  refine lv_aload_n hx hb dX12_model_5 rfl (lv_at hl 0 rfl) ?_
  refine lv_iconst (v := (-1)) hx hb dX12_model_6 (by decide) ?_
  refine kt_callV (wc := [(h0, .inr (11, [.int 0, .ref a1, .int 0, .ref a2, .int 0, .int 0, .int 0, .int 0, .int (-1), .ref a3, .ref a4, .int 0, .int 0, .int 0, .ref a5, .ref a6, .int 0, .int (-1), .int 0, .int 0, .ref a7, .ref a8, .ref a9, .ref a10, .int 0, .int 0, .ref a11, .ref a12, .int 0, .int 0, .ref a13, .ref a14, .ref a15, .int 0, .int 0, .ref a16, .ref a17, .ref a18]))]) (wr := []) (As := [.int (-1)]) (rest := []) (c_X12_models l G cy h0 a1 a2 a3 a4 a5 a6 a7 a8 a9 a10 a11 a12 a13 a14 a15 a16 a17 a18 (-1)) m_X12_models u_1894 hx hb hml hown hU hl.1 hK hP hD hS hA dX12_model_7 [0] [] rfl rfl rfl rfl rfl rfl (Nat.le_of_ble_eq_true rfl) (ci := 11) rfl rfl rfl (fun v9 w9 H locs hw hP hD hS => ?_)
  obtain ⟨rfl, rfl⟩ := hw
  have hP : va_P G vwCl [(h0, .inr (11, [.int 0, .ref a1, .int 0, .ref a2, .int 0, .int 0, .int 0, .int 0, .int (-1), .ref a3, .ref a4, .int 0, .int 0, .int 0, .ref a5, .ref a6, .int 0, .int (-1), .int 0, .int 0, .ref a7, .ref a8, .ref a9, .ref a10, .int 0, .int 0, .ref a11, .ref a12, .int 0, .int 0, .ref a13, .ref a14, .ref a15, .int 0, .int 0, .ref a16, .ref a17, .ref a18]))] H := hP
  have hD : va_D A [(h0, .inr (11, [.int 0, .ref a1, .int 0, .ref a2, .int 0, .int 0, .int 0, .int 0, .int (-1), .ref a3, .ref a4, .int 0, .int 0, .int 0, .ref a5, .ref a6, .int 0, .int (-1), .int 0, .int 0, .ref a7, .ref a8, .ref a9, .ref a10, .int 0, .int 0, .ref a11, .ref a12, .int 0, .int 0, .ref a13, .ref a14, .ref a15, .int 0, .int 0, .ref a16, .ref a17, .ref a18]))] := hD
  refine W.eq (g2 := F0 m 10 ls [.long (-1)]) rfl ?_
  refine W.widen (k := 0) (n := 0) (Nat.le_of_ble_eq_true rfl) (Nat.le_of_ble_eq_true rfl) ?_
  refine lv_lstore_n (lv' := [(2, .long (-1)), (0, .ref h0), (1, .int p0)]) hx hb dX12_model_10 rfl hl (by decide) rfl (fun ls hl => ?_)
  refine lv_iload_n hx hb dX12_model_11 rfl (lv_at hl 2 rfl) ?_
  refine lv_iconst (v := (-1)) hx hb dX12_model_12 (by decide) ?_
  refine lv_icmp_ne (tgt := 21) hx hb dX12_model_13 (by decide) (fun c_1 => ?_) (fun c_1 => ?_)
  · refine lv_iload_n hx hb dX12_model_21 rfl (lv_at hl 2 rfl) ?_
    refine lv_istore (lv' := [(4, .int p0), (2, .long (-1)), (0, .ref h0), (1, .int p0)]) hx hb dX12_model_22 hl (by decide) rfl (fun ls hl => ?_)
    refine lv_iconst (v := 0) hx hb dX12_model_24 (by decide) ?_
    refine lv_istore (lv' := [(5, .int 0), (4, .int p0), (2, .long (-1)), (0, .ref h0), (1, .int p0)]) hx hb dX12_model_25 hl (by decide) rfl (fun ls hl => ?_)
    refine (fun (hloop : ∀ (n i : Nat), i + n = 64 → (∀ j, j < i → ¬ nI j = p0) → ∀ (l9 : Int32), l9 = p0 - nI i → ∀ (H : Heap) (locs : List Loc) (ls : Array Slot), va_P G vwCl [(h0, .inr (11, [.int 0, .ref a1, .int 0, .ref a2, .int 0, .int 0, .int 0, .int 0, .int (-1), .ref a3, .ref a4, .int 0, .int 0, .int 0, .ref a5, .ref a6, .int 0, .int (-1), .int 0, .int 0, .ref a7, .ref a8, .ref a9, .ref a10, .int 0, .int 0, .ref a11, .ref a12, .int 0, .int 0, .ref a13, .ref a14, .ref a15, .int 0, .int 0, .ref a16, .ref a17, .ref a18]))] H → va_D A [(h0, .inr (11, [.int 0, .ref a1, .int 0, .ref a2, .int 0, .int 0, .int 0, .int 0, .int (-1), .ref a3, .ref a4, .int 0, .int 0, .int 0, .ref a5, .ref a6, .int 0, .int (-1), .int 0, .int 0, .ref a7, .ref a8, .ref a9, .ref a10, .int 0, .int 0, .ref a11, .ref a12, .int 0, .int 0, .ref a13, .ref a14, .ref a15, .int 0, .int 0, .ref a16, .ref a17, .ref a18]))] → va_S A s.heap H locs → lv_has ls 6 [(5, .int (nI i)), (4, .int l9), (0, .ref h0), (1, .int p0), (2, .long (-1))] → W p l e _ s m _ below meth c H locs _ _ _ (F0 m 27 ls [])) => hloop 64 0 rfl (fun j hj => absurd hj (Nat.not_lt_zero j)) p0 (by rw [nI_0]; exact (Int32.sub_zero p0).symm) _ _ _ hP hD hS (lv_sub hl [0, 1, 3, 4, 2] rfl)) ?_
    intro n
    induction n with
    | zero =>
      intro i hi0 hex l9 hl9 H locs ls hP hD hS hl
      obtain rfl : i = 64 := by omega
      refine lv_iload hx hb dX12_model_27 (lv_at hl 0 rfl) ?_
      refine lv_bipush (v := 64) hx hb dX12_model_29 (by decide) ?_
      refine lv_icmp_ge (tgt := 65) hx hb dX12_model_31 (by decide) (fun _ => ?_) (fun c9 => absurd (by decide) c9)
      refine lv_iconst (v := (-1)) hx hb dX12_model_65 (by decide) ?_
      exact kt_iret hx hb hr hlocks hP hD hS dX12_model_66 [] rfl rfl rfl rfl ⟨(-1), rfl, rfl, (sp_model_out c_1 hex)⟩
    | succ n ih =>
      intro i hi0 hex l9 hl9 H locs ls hP hD hS hl
      refine lv_iload hx hb dX12_model_27 (lv_at hl 0 rfl) ?_
      refine lv_bipush (v := 64) hx hb dX12_model_29 (by decide) ?_
      refine lv_icmp_ge (tgt := 65) hx hb dX12_model_31 (by decide) (fun c9 => absurd c9 (nI_ge (b := 64) (by omega) (by decide))) (fun _ => ?_)
      refine lv_lload_n hx hb dX12_model_34 rfl (lv_at hl 4 rfl) ?_
      refine lv_iload hx hb dX12_model_35 (lv_at hl 0 rfl) ?_
      refine lv_lshr hx hb dX12_model_37 rfl ?_
      refine lv_lconst (v := 1) hx hb dX12_model_38 (by decide) ?_
      refine lv_land hx hb dX12_model_39 (lx_topl (y := 1) (lx_sbit i (by omega)) ?_)
      refine lv_lconst (v := 0) hx hb dX12_model_40 (by decide) ?_
      refine W.lcmp hx hb dX12_model_41 (lx_top (y := 1) (by decide +kernel) ?_)
      refine lv_if_ne (tgt := 48) hx hb dX12_model_42 (by decide) (fun _ => ?_) (fun c9 => absurd c9 (by decide))
      refine lv_iload hx hb dX12_model_48 (lv_at hl 1 rfl) ?_
      refine lv_if_ne (tgt := 56) hx hb dX12_model_50 (by decide) (fun c_2 => ?_) (fun c_2 => ?_)
      · refine lv_iinc (v := (l9 + (-1))) (lv' := [(4, .int (l9 + (-1))), (5, .int (nI i)), (0, .ref h0), (1, .int p0), (2, .long (-1))]) hx hb dX12_model_56 hl (k := 1) rfl rfl (by decide) rfl (fun ls hl => ?_)
        refine lv_iinc (v := nI (i + 1)) (lv' := [(5, .int (nI (i + 1))), (4, .int (l9 + (-1))), (0, .ref h0), (1, .int p0), (2, .long (-1))]) hx hb dX12_model_59 hl (k := 1) rfl (nI_1 i) (by decide) rfl (fun ls hl => ?_)
        refine lv_goto (tgt := 27) hx hb dX12_model_62 (by decide) ?_
        exact ih (i + 1) (by omega) (fun j hj => (Nat.lt_succ_iff_lt_or_eq.mp hj).elim (hex j) (fun e9 => by rw [e9]; exact lx_leftn hl9 c_2)) (l9 + (-1)) (lx_lefts hl9) _ _ _ hP hD hS (lv_sub hl [0, 1, 2, 3, 4] rfl)
      · refine lv_iload hx hb dX12_model_53 (lv_at hl 0 rfl) ?_
        exact kt_iret hx hb hr hlocks hP hD hS dX12_model_55 [] rfl rfl rfl rfl ⟨(nI i), rfl, rfl, (sp_model_hit (by omega) c_1 (lx_left hl9 c_2))⟩
  · refine lv_lload_n hx hb dX12_model_16 rfl (lv_at hl 0 rfl) ?_
    refine kt_callS (wc := []) (wr := [(h0, .inr (11, [.int 0, .ref a1, .int 0, .ref a2, .int 0, .int 0, .int 0, .int 0, .int (-1), .ref a3, .ref a4, .int 0, .int 0, .int 0, .ref a5, .ref a6, .int 0, .int (-1), .int 0, .int 0, .ref a7, .ref a8, .ref a9, .ref a10, .int 0, .int 0, .ref a11, .ref a12, .int 0, .int 0, .ref a13, .ref a14, .ref a15, .int 0, .int 0, .ref a16, .ref a17, .ref a18]))]) (As := [.long (-1)]) (rest := []) (c_X12_many l G cy ) m_X12_many u_1887 hx hb hml hown hU hl.1 hK hP hD hS hA dX12_model_17 [] [0] rfl rfl rfl rfl rfl rfl (Nat.le_of_ble_eq_true rfl) (fun v9 w9 H locs hw hP hD hS => ?_)
    obtain ⟨rfl, rfl⟩ := hw
    have hP : va_P G vwCl [(h0, .inr (11, [.int 0, .ref a1, .int 0, .ref a2, .int 0, .int 0, .int 0, .int 0, .int (-1), .ref a3, .ref a4, .int 0, .int 0, .int 0, .ref a5, .ref a6, .int 0, .int (-1), .int 0, .int 0, .ref a7, .ref a8, .ref a9, .ref a10, .int 0, .int 0, .ref a11, .ref a12, .int 0, .int 0, .ref a13, .ref a14, .ref a15, .int 0, .int 0, .ref a16, .ref a17, .ref a18]))] H := hP
    have hD : va_D A [(h0, .inr (11, [.int 0, .ref a1, .int 0, .ref a2, .int 0, .int 0, .int 0, .int 0, .int (-1), .ref a3, .ref a4, .int 0, .int 0, .int 0, .ref a5, .ref a6, .int 0, .int (-1), .int 0, .int 0, .ref a7, .ref a8, .ref a9, .ref a10, .int 0, .int 0, .ref a11, .ref a12, .int 0, .int 0, .ref a13, .ref a14, .ref a15, .int 0, .int 0, .ref a16, .ref a17, .ref a18]))] := hD
    refine W.eq (g2 := F0 m 20 ls [.int 64]) rfl ?_
    refine W.widen (k := 0) (n := 0) (Nat.le_of_ble_eq_true rfl) (Nat.le_of_ble_eq_true rfl) ?_
    exact kt_iret hx hb hr hlocks hP hD hS dX12_model_20 [] rfl rfl rfl rfl ⟨64, rfl, rfl, (by simp [sp_model, c_1])⟩
