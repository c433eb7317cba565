set_option maxHeartbeats 4000000 in
set_option maxRecDepth 100000 in
theorem c_X2_init (l : Launch) (G : va_G) (cy : Nat → ClassId) (h0 : Nat) (p0 : Int32) : Kt l G cy yX2_init cX2_init 2 none ({ frames := 10, cells := 2, slots := 793, locals := 200 } : Room) [.ref h0, .int p0] [(h0, .inr (2, [.int 0, .null, .null, .int 0, .int 0, .int 0, .int 0]))] (fun (v : Option Value) (w1 : va_W) => ∃ (b1 : Nat), ∃ (b2 : Nat), v = none ∧ w1 = [(h0, .inr (2, [.int p0, .ref b1, .ref b2, .int 0, .int 0, .int 0, .int 0])), (b1, .inl (cy 2, 64, .inr (.inl (fun _ => 0)))), (b2, .inl (cy 1, 729, .inl (fun _ => 0)))]) := by
  refine kt_ofW (by decide) (Nat.le_of_ble_eq_true rfl) ?_
  intro p e s m below meth c A ls hx hb hr hU hown hlocks hml hin hP hK hD hA hS hl
  have hown : s.vm.findClass RX2 = some m.cls := hown
  have hl : lv_has ls 2 [(0, .ref h0), (1, .int p0)] := hl
  refine lv_aload_n hx hb dX2_init_0 rfl (lv_at hl 0 rfl) ?_
  refine W.objInit hx hb hown (hU _ u_337) (hU _ u_157) (hU _ u_158) rfl (by rw [hml]; exact hl.1) rfl dX2_init_1 (Nat.le_of_ble_eq_true rfl) (Nat.le_of_ble_eq_true rfl) ?_
  refine W.eq (g2 := F0 m 4 ls []) rfl ?_
  refine lv_aload_n hx hb dX2_init_4 rfl (lv_at hl 0 rfl) ?_
  refine lv_iload_n hx hb dX2_init_5 rfl (lv_at hl 1 rfl) ?_
  refine va_putF (D := G) (ci := 2) (v := .int p0) (ty := .int) (C := RX2) (T := TX2) (N := 7) hx hb hU in_X2 tyX2 tyX2_ok nmX2 hown hK.1 hP hD hS 0 rfl rfl 0 (by decide) (hU _ u_338) (fun _ h9 => h9) rfl hin rfl (by decide +kernel) rfl rfl (Nat.le_of_ble_eq_true rfl) dX2_init_6 (fun H locs hP hD hS => ?_)
  have hP : va_P G vwCl [(h0, .inr (2, [.int p0, .null, .null, .int 0, .int 0, .int 0, .int 0]))] H := hP
  have hD : va_D A [(h0, .inr (2, [.int p0, .null, .null, .int 0, .int 0, .int 0, .int 0]))] := hD
  refine lv_aload_n hx hb dX2_init_9 rfl (lv_at hl 0 rfl) ?_
  refine lv_bipush (v := 64) hx hb dX2_init_10 (by decide) ?_
  refine lx_newa (atype := .long) (ty := .long) (N' := 64) (a0 := (64, .inr (.inl (fun _ => 0)))) hx hb hU u_364 rfl hK hP hD hS hA 2 rfl (fun _ h9 => h9) (fun _ => rfl) (by decide) (by decide +kernel) (Nat.le_of_ble_eq_true rfl) (Nat.le_of_ble_eq_true rfl) (Nat.le_of_ble_eq_true rfl) dX2_init_12 (fun q_1 H hP hD hS => ?_)
  have hP : va_P G vwCl [(h0, .inr (2, [.int p0, .null, .null, .int 0, .int 0, .int 0, .int 0])), (q_1, .inl (cy 2, 64, .inr (.inl (fun _ => 0))))] H := hP
  have hD : va_D A [(h0, .inr (2, [.int p0, .null, .null, .int 0, .int 0, .int 0, .int 0])), (q_1, .inl (cy 2, 64, .inr (.inl (fun _ => 0))))] := hD
  refine W.widen (k := 1) (n := 64) (Nat.le_of_ble_eq_true rfl) (Nat.le_of_ble_eq_true rfl) ?_
  refine va_putF (D := G) (ci := 2) (v := .ref q_1) (ty := .array (.long)) (C := RX2) (T := TX2) (N := 7) hx hb hU in_X2 tyX2 tyX2_ok nmX2 hown hK.1 hP hD hS 0 rfl rfl 1 (by decide) (hU _ u_339) (fun _ h9 => h9) rfl hin rfl (by decide +kernel) rfl rfl (Nat.le_of_ble_eq_true rfl) dX2_init_14 (fun H locs hP hD hS => ?_)
  have hP : va_P G vwCl [(h0, .inr (2, [.int p0, .ref q_1, .null, .int 0, .int 0, .int 0, .int 0])), (q_1, .inl (cy 2, 64, .inr (.inl (fun _ => 0))))] H := hP
  have hD : va_D A [(h0, .inr (2, [.int p0, .ref q_1, .null, .int 0, .int 0, .int 0, .int 0])), (q_1, .inl (cy 2, 64, .inr (.inl (fun _ => 0))))] := hD
  refine lv_aload_n hx hb dX2_init_17 rfl (lv_at hl 0 rfl) ?_
  refine lv_sipush (v := 729) hx hb dX2_init_18 (by decide) ?_
  refine lx_newa (atype := .int) (ty := .int) (N' := 729) (a0 := (729, .inl (fun _ => 0))) hx hb hU u_214 rfl hK hP hD hS hA 1 rfl (fun _ h9 => h9) (fun _ => rfl) (by decide) (by decide +kernel) (Nat.le_of_ble_eq_true rfl) (Nat.le_of_ble_eq_true rfl) (Nat.le_of_ble_eq_true rfl) dX2_init_21 (fun q_2 H hP hD hS => ?_)
  have hP : va_P G vwCl [(h0, .inr (2, [.int p0, .ref q_1, .null, .int 0, .int 0, .int 0, .int 0])), (q_1, .inl (cy 2, 64, .inr (.inl (fun _ => 0)))), (q_2, .inl (cy 1, 729, .inl (fun _ => 0)))] H := hP
  have hD : va_D A [(h0, .inr (2, [.int p0, .ref q_1, .null, .int 0, .int 0, .int 0, .int 0])), (q_1, .inl (cy 2, 64, .inr (.inl (fun _ => 0)))), (q_2, .inl (cy 1, 729, .inl (fun _ => 0)))] := hD
  refine W.widen (k := 2) (n := 793) (Nat.le_of_ble_eq_true rfl) (Nat.le_of_ble_eq_true rfl) ?_
  refine va_putF (D := G) (ci := 2) (v := .ref q_2) (ty := .array (.int)) (C := RX2) (T := TX2) (N := 7) hx hb hU in_X2 tyX2 tyX2_ok nmX2 hown hK.1 hP hD hS 0 rfl rfl 2 (by decide) (hU _ u_340) (fun _ h9 => h9) rfl hin rfl (by decide +kernel) rfl rfl (Nat.le_of_ble_eq_true rfl) dX2_init_23 (fun H locs hP hD hS => ?_)
  have hP : va_P G vwCl [(h0, .inr (2, [.int p0, .ref q_1, .ref q_2, .int 0, .int 0, .int 0, .int 0])), (q_1, .inl (cy 2, 64, .inr (.inl (fun _ => 0)))), (q_2, .inl (cy 1, 729, .inl (fun _ => 0)))] H := hP
  have hD : va_D A [(h0, .inr (2, [.int p0, .ref q_1, .ref q_2, .int 0, .int 0, .int 0, .int 0])), (q_1, .inl (cy 2, 64, .inr (.inl (fun _ => 0)))), (q_2, .inl (cy 1, 729, .inl (fun _ => 0)))] := hD
  exact kt_vret hx hb hr hlocks hP hD hS dX2_init_26 [0, 1, 2] rfl rfl rfl rfl ⟨q_1, q_2, rfl, rfl⟩
set_option maxHeartbeats 4000000 in
set_option maxRecDepth 100000 in
theorem c_J7_fill_d0a16 (l : Launch) (G : va_G) (cy : Nat → ClassId) (b1 : Nat) : Kt l G cy yJ7_fill_d0a16 cJ7_fill_d0a16 5 none ({ frames := 10, cells := 0, slots := 0, locals := 200 } : Room) [.ref b1, .long 0] [(b1, .inl (cy 2, 64, .inr (.inl (fun _ => 0))))] (fun (v : Option Value) (w1 : va_W) => v = none ∧ w1 = [(b1, .inl (cy 2, 64, .inr (.inl (fun _ => 0))))]) := by
  refine kt_ofW (by decide) (Nat.le_of_ble_eq_true rfl) ?_
  intro p e s m below meth c A ls hx hb hr hU hown hlocks hml hin hP hK hD hA hS hl
  have hown : s.vm.findClass RJ7 = some m.cls := hown
  have hl : lv_has ls 5 [(0, .ref b1), (1, .long 0)] := hl
  refine lv_iconst (v := 0) hx hb dJ7_fill_d0a16_0 (by decide) ?_
  refine lv_istore_n (lv' := [(3, .int 0), (0, .ref b1), (1, .long 0)]) hx hb dJ7_fill_d0a16_1 rfl hl (by decide) rfl (fun ls hl => ?_)
  refine lv_aload_n hx hb dJ7_fill_d0a16_2 rfl (lv_at hl 1 rfl) ?_
  refine va_alen (v := 64) hx hb hK.1 hP 0 2 rfl rfl (by decide) dJ7_fill_d0a16_3 ?_
  refine lv_istore (lv' := [(4, .int 64), (3, .int 0), (0, .ref b1), (1, .long 0)]) hx hb dJ7_fill_d0a16_4 hl (by decide) rfl (fun ls hl => ?_)
  refine (fun (hloop : ∀ (n i : Nat), i + n = 64 → ∀ (H : Heap) (locs : List Loc) (ls : Array Slot), va_P G vwCl [(b1, .inl (cy 2, 64, .inr (.inl (fun _ => 0))))] H → va_D A [(b1, .inl (cy 2, 64, .inr (.inl (fun _ => 0))))] → va_S A s.heap H locs → lv_has ls 5 [(3, .int (nI i)), (4, .int 64), (0, .ref b1), (1, .long 0)] → W p l e _ s m _ below meth c H locs _ _ _ (F0 m 6 ls [])) => hloop 64 0 rfl _ _ _ hP hD hS (lv_sub hl [1, 0, 2, 3] rfl)) ?_
  intro n
  induction n with
  | zero =>
    intro i hi0 H locs ls hP hD hS hl
    obtain rfl : i = 64 := by omega
    refine lv_iload_n hx hb dJ7_fill_d0a16_6 rfl (lv_at hl 0 rfl) ?_
    refine lv_iload hx hb dJ7_fill_d0a16_7 (lv_at hl 1 rfl) ?_
    refine lv_icmp_ge (tgt := 22) hx hb dJ7_fill_d0a16_9 (by decide) (fun _ => ?_) (fun c9 => absurd (by decide) c9)
    exact kt_vret hx hb hr hlocks hP hD hS dJ7_fill_d0a16_22 [0] rfl rfl rfl rfl ⟨rfl, rfl⟩
  | succ n ih =>
    intro i hi0 H locs ls hP hD hS hl
    refine lv_iload_n hx hb dJ7_fill_d0a16_6 rfl (lv_at hl 0 rfl) ?_
    refine lv_iload hx hb dJ7_fill_d0a16_7 (lv_at hl 1 rfl) ?_
    refine lv_icmp_ge (tgt := 22) hx hb dJ7_fill_d0a16_9 (by decide) (fun c9 => absurd c9 (nI_ge (b := 64) (by omega) (by decide))) (fun _ => ?_)
    refine lv_aload_n hx hb dJ7_fill_d0a16_12 rfl (lv_at hl 2 rfl) ?_
    refine lv_iload_n hx hb dJ7_fill_d0a16_13 rfl (lv_at hl 0 rfl) ?_
    refine lv_lload_n hx hb dJ7_fill_d0a16_14 rfl (lv_at hl 3 rfl) ?_
    refine va_last hx hb hK.1 hP hD hS 0 2 rfl rfl (vp_in_nI (by omega) (by decide)) dJ7_fill_d0a16_15 (fun H locs hP hD hS => ?_)
    rw [lx_upL] at hP hD
    have hP : va_P G vwCl [(b1, .inl (cy 2, 64, .inr (.inl (fun _ => 0))))] H := hP
    have hD : va_D A [(b1, .inl (cy 2, 64, .inr (.inl (fun _ => 0))))] := hD
    refine lv_iinc (v := nI (i + 1)) (lv' := [(3, .int (nI (i + 1))), (4, .int 64), (0, .ref b1), (1, .long 0)]) hx hb dJ7_fill_d0a16_16 hl (k := 0) rfl (nI_1 i) (by decide) rfl (fun ls hl => ?_)
    refine lv_goto (tgt := 6) hx hb dJ7_fill_d0a16_19 (by decide) ?_
    exact ih (i + 1) (by omega) _ _ _ hP hD hS (lv_sub hl [0, 1, 2, 3] rfl)
