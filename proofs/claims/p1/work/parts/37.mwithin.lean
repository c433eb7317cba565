set_option maxHeartbeats 4000000 in
set_option maxRecDepth 100000 in
theorem c_X12_laysWithin (l : Launch) (G : va_G) (cy : Nat → ClassId) (h0 : Nat) (a1 : Nat) (a2 : Nat) (a3 : Nat) (a4 : Nat) (a5 : Nat) (a6 : Nat) (a7 : Nat) (a8 : Nat) (a9 : Nat) (a10 : Nat) (a11 : Nat) (a12 : Nat) (a13 : Nat) (a14 : Nat) (a15 : Nat) (a16 : Nat) (a17 : Nat) (a18 : Nat) (p0 : Int32) (f0 : Nat → Int32) : Kt l G cy yX12_laysWithin cX12_laysWithin 6 none ({ frames := 10, cells := 0, slots := 0, locals := 200 } : Room) [.ref h0, .int p0] [(h0, .inr (11, [.int 0, .ref a1, .int 0, .ref a2, .int 0, .int 0, .int 0, .int 0, .int (-1), .ref a3, .ref a4, .int 0, .int 0, .int 0, .ref a5, .ref a6, .int 0, .int (-1), .int 0, .int 0, .ref a7, .ref a8, .ref a9, .ref a10, .int 0, .int 0, .ref a11, .ref a12, .int 0, .int 0, .ref a13, .ref a14, .ref a15, .int 0, .int 0, .ref a16, .ref a17, .ref a18])), (a11, .inl (cy 1, 4096, .inl f0))] (fun (v : Option Value) (w1 : va_W) => v = none ∧ w1 = [(h0, .inr (11, [.int 0, .ref a1, .int 0, .ref a2, .int 0, .int 0, .int 0, .int 0, .int (-1), .ref a3, .ref a4, .int 0, .int 0, .int 0, .ref a5, .ref a6, .int 0, .int (-1), .int 0, .int 0, .ref a7, .ref a8, .ref a9, .ref a10, .int 0, .int 0, .ref a11, .ref a12, .int 0, .int 0, .ref a13, .ref a14, .ref a15, .int 0, .int 0, .ref a16, .ref a17, .ref a18])), (a11, .inl (cy 1, 4096, .inl (cmF f0 4096)))]) := by
  refine kt_ofW (by decide) (Nat.le_of_ble_eq_true rfl) ?_
  intro p e s m below meth c A ls hx hb hr hU hown hlocks hml hin hP hK hD hA hS hl
  have hown : s.vm.findClass RX12 = some m.cls := hown
  have hl : lv_has ls 6 [(0, .ref h0), (1, .int p0)] := hl
  refine lv_iconst (v := 0) hx hb dX12_laysWithin_0 (by decide) ?_
  refine lv_istore_n (lv' := [(2, .int 0), (0, .ref h0), (1, .int p0)]) hx hb dX12_laysWithin_1 rfl hl (by decide) rfl (fun ls hl => ?_)
  rw [cmF_0 f0] at hP hD
  refine (fun (hloop : ∀ (n i : Nat), i + n = 4096 → ∀ (H : Heap) (locs : List Loc) (ls : Array Slot), va_P G vwCl [(h0, .inr (11, [.int 0, .ref a1, .int 0, .ref a2, .int 0, .int 0, .int 0, .int 0, .int (-1), .ref a3, .ref a4, .int 0, .int 0, .int 0, .ref a5, .ref a6, .int 0, .int (-1), .int 0, .int 0, .ref a7, .ref a8, .ref a9, .ref a10, .int 0, .int 0, .ref a11, .ref a12, .int 0, .int 0, .ref a13, .ref a14, .ref a15, .int 0, .int 0, .ref a16, .ref a17, .ref a18])), (a11, .inl (cy 1, 4096, .inl (cmF f0 i)))] H → va_D A [(h0, .inr (11, [.int 0, .ref a1, .int 0, .ref a2, .int 0, .int 0, .int 0, .int 0, .int (-1), .ref a3, .ref a4, .int 0, .int 0, .int 0, .ref a5, .ref a6, .int 0, .int (-1), .int 0, .int 0, .ref a7, .ref a8, .ref a9, .ref a10, .int 0, .int 0, .ref a11, .ref a12, .int 0, .int 0, .ref a13, .ref a14, .ref a15, .int 0, .int 0, .ref a16, .ref a17, .ref a18])), (a11, .inl (cy 1, 4096, .inl (cmF f0 i)))] → va_S A s.heap H locs → lv_has ls 6 [(2, .int (nI i)), (0, .ref h0), (1, .int p0)] → W p l e _ s m _ below meth c H locs _ _ _ (F0 m 2 ls [])) => hloop 4096 0 rfl _ _ _ hP hD hS (lv_sub hl [0, 1, 2] rfl)) ?_
  clear hP hD
  intro n
  induction n with
  | zero =>
    intro i hi0 H locs ls hP hD hS hl
    obtain rfl : i = 4096 := by omega
    refine lv_iload_n hx hb dX12_laysWithin_2 rfl (lv_at hl 0 rfl) ?_
    refine lv_sipush (v := 4096) hx hb dX12_laysWithin_3 (by decide) ?_
    refine lv_icmp_ge (tgt := 22) hx hb dX12_laysWithin_6 (by decide) (fun _ => ?_) (fun c9 => absurd (by decide) c9)
    refine lv_aload_n hx hb dX12_laysWithin_22 rfl (lv_at hl 1 rfl) ?_
    refine lv_iconst (v := 0) hx hb dX12_laysWithin_23 (by decide) ?_
    refine va_put (D := G) (ci := 11) (v := .int 0) (ty := .int) (C := RX12) (T := TX12) (N := 38) hx hb hU in_X12 tyX12 tyX12_ok nmX12 hown hK.1 hP hD hS 0 rfl rfl 28 (by decide) (hU _ u_1533) (fun _ h9 => h9) rfl (by decide +kernel) rfl rfl (Nat.le_of_ble_eq_true rfl) dX12_laysWithin_24 (fun H locs hP hD hS => ?_)
    have hP : va_P G vwCl [(h0, .inr (11, [.int 0, .ref a1, .int 0, .ref a2, .int 0, .int 0, .int 0, .int 0, .int (-1), .ref a3, .ref a4, .int 0, .int 0, .int 0, .ref a5, .ref a6, .int 0, .int (-1), .int 0, .int 0, .ref a7, .ref a8, .ref a9, .ref a10, .int 0, .int 0, .ref a11, .ref a12, .int 0, .int 0, .ref a13, .ref a14, .ref a15, .int 0, .int 0, .ref a16, .ref a17, .ref a18])), (a11, .inl (cy 1, 4096, .inl (cmF f0 4096)))] H := hP
    have hD : va_D A [(h0, .inr (11, [.int 0, .ref a1, .int 0, .ref a2, .int 0, .int 0, .int 0, .int 0, .int (-1), .ref a3, .ref a4, .int 0, .int 0, .int 0, .ref a5, .ref a6, .int 0, .int (-1), .int 0, .int 0, .ref a7, .ref a8, .ref a9, .ref a10, .int 0, .int 0, .ref a11, .ref a12, .int 0, .int 0, .ref a13, .ref a14, .ref a15, .int 0, .int 0, .ref a16, .ref a17, .ref a18])), (a11, .inl (cy 1, 4096, .inl (cmF f0 4096)))] := hD
    refine lv_aload_n hx hb dX12_laysWithin_27 rfl (lv_at hl 1 rfl) ?_
    refine lv_iconst (v := 0) hx hb dX12_laysWithin_28 (by decide) ?_
    refine va_put (D := G) (ci := 11) (v := .int 0) (ty := .int) (C := RX12) (T := TX12) (N := 38) hx hb hU in_X12 tyX12 tyX12_ok nmX12 hown hK.1 hP hD hS 0 rfl rfl 29 (by decide) (hU _ u_1534) (fun _ h9 => h9) rfl (by decide +kernel) rfl rfl (Nat.le_of_ble_eq_true rfl) dX12_laysWithin_29 (fun H locs hP hD hS => ?_)
    have hP : va_P G vwCl [(h0, .inr (11, [.int 0, .ref a1, .int 0, .ref a2, .int 0, .int 0, .int 0, .int 0, .int (-1), .ref a3, .ref a4, .int 0, .int 0, .int 0, .ref a5, .ref a6, .int 0, .int (-1), .int 0, .int 0, .ref a7, .ref a8, .ref a9, .ref a10, .int 0, .int 0, .ref a11, .ref a12, .int 0, .int 0, .ref a13, .ref a14, .ref a15, .int 0, .int 0, .ref a16, .ref a17, .ref a18])), (a11, .inl (cy 1, 4096, .inl (cmF f0 4096)))] H := hP
    have hD : va_D A [(h0, .inr (11, [.int 0, .ref a1, .int 0, .ref a2, .int 0, .int 0, .int 0, .int 0, .int (-1), .ref a3, .ref a4, .int 0, .int 0, .int 0, .ref a5, .ref a6, .int 0, .int (-1), .int 0, .int 0, .ref a7, .ref a8, .ref a9, .ref a10, .int 0, .int 0, .ref a11, .ref a12, .int 0, .int 0, .ref a13, .ref a14, .ref a15, .int 0, .int 0, .ref a16, .ref a17, .ref a18])), (a11, .inl (cy 1, 4096, .inl (cmF f0 4096)))] := hD
    refine lv_iconst (v := 0) hx hb dX12_laysWithin_32 (by decide) ?_
    refine lv_istore_n (lv' := [(2, .int 0), (0, .ref h0), (1, .int p0)]) hx hb dX12_laysWithin_33 rfl hl (by decide) rfl (fun ls hl => ?_)
    refine lv_iload_n hx hb dX12_laysWithin_34 rfl (lv_at hl 0 rfl) ?_
    refine lv_aload_n hx hb dX12_laysWithin_35 rfl (lv_at hl 1 rfl) ?_
    refine va_get (D := G) (ci := 11) (v := .int 0) (C := RX12) (T := TX12) (N := 38) hx hb hU in_X12 hown hK.1 hP 0 rfl rfl 11 (by decide) (hU _ u_1516) (fun _ h9 => h9) rfl dX12_laysWithin_36 ?_
    refine lv_icmp_ge (tgt := 79) hx hb dX12_laysWithin_39 (by decide) (fun _ => ?_) (fun c9 => absurd (by decide) c9)
    refine lv_iconst (v := 1) hx hb dX12_laysWithin_79 (by decide) ?_
    refine lv_istore_n (lv' := [(2, .int 1), (0, .ref h0), (1, .int p0)]) hx hb dX12_laysWithin_80 rfl hl (by decide) rfl (fun ls hl => ?_)
    refine lv_iload_n hx hb dX12_laysWithin_81 rfl (lv_at hl 0 rfl) ?_
    refine lv_if_eq (tgt := 180) hx hb dX12_laysWithin_82 (by decide) (fun c9 => absurd c9 (by decide)) (fun _ => ?_)
    refine lv_aload_n hx hb dX12_laysWithin_85 rfl (lv_at hl 1 rfl) ?_
    refine va_get (D := G) (ci := 11) (v := .int 0) (C := RX12) (T := TX12) (N := 38) hx hb hU in_X12 hown hK.1 hP 0 rfl rfl 28 (by decide) (hU _ u_1533) (fun _ h9 => h9) rfl dX12_laysWithin_86 ?_
    refine lv_istore_n (lv' := [(3, .int 0), (2, .int 1), (0, .ref h0), (1, .int p0)]) hx hb dX12_laysWithin_89 rfl hl (by decide) rfl (fun ls hl => ?_)
    refine lv_iconst (v := 0) hx hb dX12_laysWithin_90 (by decide) ?_
    refine lv_istore (lv' := [(4, .int 0), (3, .int 0), (2, .int 1), (0, .ref h0), (1, .int p0)]) hx hb dX12_laysWithin_91 hl (by decide) rfl (fun ls hl => ?_)
    refine lv_iload hx hb dX12_laysWithin_93 (lv_at hl 0 rfl) ?_
    refine lv_iload_n hx hb dX12_laysWithin_95 rfl (lv_at hl 1 rfl) ?_
    refine lv_icmp_ge (tgt := 145) hx hb dX12_laysWithin_96 (by decide) (fun _ => ?_) (fun c9 => absurd (by decide) c9)
    refine lv_aload_n hx hb dX12_laysWithin_145 rfl (lv_at hl 3 rfl) ?_
    refine va_get (D := G) (ci := 11) (v := .int 0) (C := RX12) (T := TX12) (N := 38) hx hb hU in_X12 hown hK.1 hP 0 rfl rfl 28 (by decide) (hU _ u_1533) (fun _ h9 => h9) rfl dX12_laysWithin_146 ?_
    refine lv_iload_n hx hb dX12_laysWithin_149 rfl (lv_at hl 1 rfl) ?_
    refine lv_icmp_le (tgt := 157) hx hb dX12_laysWithin_150 (by decide) (fun _ => ?_) (fun c9 => absurd (by decide) c9)
    refine lv_iconst (v := 0) hx hb dX12_laysWithin_157 (by decide) ?_
    refine lv_istore_n (lv' := [(2, .int 0), (4, .int 0), (3, .int 0), (0, .ref h0), (1, .int p0)]) hx hb dX12_laysWithin_158 rfl hl (by decide) rfl (fun ls hl => ?_)
    refine lv_aload_n hx hb dX12_laysWithin_159 rfl (lv_at hl 3 rfl) ?_
    refine lv_dup hx hb dX12_laysWithin_160 rfl ?_
    refine va_get (D := G) (ci := 11) (v := .int 0) (C := RX12) (T := TX12) (N := 38) hx hb hU in_X12 hown hK.1 hP 0 rfl rfl 29 (by decide) (hU _ u_1534) (fun _ h9 => h9) rfl dX12_laysWithin_161 ?_
    refine lv_iload_n hx hb dX12_laysWithin_164 rfl (lv_at hl 0 rfl) ?_
    refine lv_if_eq (tgt := 172) hx hb dX12_laysWithin_165 (by decide) (fun _ => ?_) (fun c9 => absurd (by decide) c9)
    refine lv_iconst (v := 0) hx hb dX12_laysWithin_172 (by decide) ?_
    refine lv_iadd hx hb dX12_laysWithin_173 (lx_top (y := 0) (by decide +kernel) ?_)
    refine va_put (D := G) (ci := 11) (v := .int 0) (ty := .int) (C := RX12) (T := TX12) (N := 38) hx hb hU in_X12 tyX12 tyX12_ok nmX12 hown hK.1 hP hD hS 0 rfl rfl 29 (by decide) (hU _ u_1534) (fun _ h9 => h9) rfl (by decide +kernel) rfl rfl (Nat.le_of_ble_eq_true rfl) dX12_laysWithin_174 (fun H locs hP hD hS => ?_)
    have hP : va_P G vwCl [(h0, .inr (11, [.int 0, .ref a1, .int 0, .ref a2, .int 0, .int 0, .int 0, .int 0, .int (-1), .ref a3, .ref a4, .int 0, .int 0, .int 0, .ref a5, .ref a6, .int 0, .int (-1), .int 0, .int 0, .ref a7, .ref a8, .ref a9, .ref a10, .int 0, .int 0, .ref a11, .ref a12, .int 0, .int 0, .ref a13, .ref a14, .ref a15, .int 0, .int 0, .ref a16, .ref a17, .ref a18])), (a11, .inl (cy 1, 4096, .inl (cmF f0 4096)))] H := hP
    have hD : va_D A [(h0, .inr (11, [.int 0, .ref a1, .int 0, .ref a2, .int 0, .int 0, .int 0, .int 0, .int (-1), .ref a3, .ref a4, .int 0, .int 0, .int 0, .ref a5, .ref a6, .int 0, .int (-1), .int 0, .int 0, .ref a7, .ref a8, .ref a9, .ref a10, .int 0, .int 0, .ref a11, .ref a12, .int 0, .int 0, .ref a13, .ref a14, .ref a15, .int 0, .int 0, .ref a16, .ref a17, .ref a18])), (a11, .inl (cy 1, 4096, .inl (cmF f0 4096)))] := hD
    refine lv_goto (tgt := 81) hx hb dX12_laysWithin_177 (by decide) ?_
    refine lv_iload_n hx hb dX12_laysWithin_81 rfl (lv_at hl 0 rfl) ?_
    refine lv_if_eq (tgt := 180) hx hb dX12_laysWithin_82 (by decide) (fun _ => ?_) (fun c9 => absurd (by decide) c9)
    exact kt_vret hx hb hr hlocks hP hD hS dX12_laysWithin_180 [0, 1] rfl rfl rfl rfl ⟨rfl, rfl⟩
  | succ n ih =>
    intro i hi0 H locs ls hP hD hS hl
    refine lv_iload_n hx hb dX12_laysWithin_2 rfl (lv_at hl 0 rfl) ?_
    refine lv_sipush (v := 4096) hx hb dX12_laysWithin_3 (by decide) ?_
    refine lv_icmp_ge (tgt := 22) hx hb dX12_laysWithin_6 (by decide) (fun c9 => absurd c9 (nI_ge (b := 4096) (by omega) (by decide))) (fun _ => ?_)
    refine lv_aload_n hx hb dX12_laysWithin_9 rfl (lv_at hl 1 rfl) ?_
    refine va_get (D := G) (ci := 11) (v := .ref a11) (C := RX12) (T := TX12) (N := 38) hx hb hU in_X12 hown hK.1 hP 0 rfl rfl 26 (by decide) (hU _ u_1531) (fun _ h9 => h9) rfl dX12_laysWithin_10 ?_
    refine lv_iload_n hx hb dX12_laysWithin_13 rfl (lv_at hl 0 rfl) ?_
    refine lv_iconst (v := (-1)) hx hb dX12_laysWithin_14 (by decide) ?_
    refine va_iast hx hb hK.1 hP hD hS 1 1 rfl rfl (vp_in_nI (by omega) (by decide)) dX12_laysWithin_15 (fun H locs hP hD hS => ?_)
    rw [cmF_s f0 i (by omega)] at hP hD
    have hP : va_P G vwCl [(h0, .inr (11, [.int 0, .ref a1, .int 0, .ref a2, .int 0, .int 0, .int 0, .int 0, .int (-1), .ref a3, .ref a4, .int 0, .int 0, .int 0, .ref a5, .ref a6, .int 0, .int (-1), .int 0, .int 0, .ref a7, .ref a8, .ref a9, .ref a10, .int 0, .int 0, .ref a11, .ref a12, .int 0, .int 0, .ref a13, .ref a14, .ref a15, .int 0, .int 0, .ref a16, .ref a17, .ref a18])), (a11, .inl (cy 1, 4096, .inl (cmF f0 (i + 1))))] H := hP
    have hD : va_D A [(h0, .inr (11, [.int 0, .ref a1, .int 0, .ref a2, .int 0, .int 0, .int 0, .int 0, .int (-1), .ref a3, .ref a4, .int 0, .int 0, .int 0, .ref a5, .ref a6, .int 0, .int (-1), .int 0, .int 0, .ref a7, .ref a8, .ref a9, .ref a10, .int 0, .int 0, .ref a11, .ref a12, .int 0, .int 0, .ref a13, .ref a14, .ref a15, .int 0, .int 0, .ref a16, .ref a17, .ref a18])), (a11, .inl (cy 1, 4096, .inl (cmF f0 (i + 1))))] := hD
    refine lv_iinc (v := nI (i + 1)) (lv' := [(2, .int (nI (i + 1))), (0, .ref h0), (1, .int p0)]) hx hb dX12_laysWithin_16 hl (k := 0) rfl (nI_1 i) (by decide) rfl (fun ls hl => ?_)
    refine lv_goto (tgt := 2) hx hb dX12_laysWithin_19 (by decide) ?_
    exact ih (i + 1) (by omega) _ _ _ hP hD hS (lv_sub hl [0, 1, 2] rfl)
set_option maxHeartbeats 4000000 in
set_option maxRecDepth 100000 in
theorem c_X12_within (l : Launch) (G : va_G) (cy : Nat → ClassId) (h0 : Nat) (a1 : Nat) (a2 : Nat) (a3 : Nat) (a4 : Nat) (a5 : Nat) (a6 : Nat) (a7 : Nat) (a8 : Nat) (a9 : Nat) (a10 : Nat) (a11 : Nat) (a12 : Nat) (a13 : Nat) (a14 : Nat) (a15 : Nat) (a16 : Nat) (a17 : Nat) (a18 : Nat) (p0 : Int32) (p1 : Int32) : Kt l G cy yX12_within cX12_within 3 (some .int) ({ frames := 12, cells := 0, slots := 0, locals := 300 } : Room) [.ref h0, .int p0, .int p1] [(h0, .inr (11, [.int 0, .ref a1, .int 0, .ref a2, .int 0, .int 0, .int 0, .int 0, .int (-1), .ref a3, .ref a4, .int 0, .int 0, .int 0, .ref a5, .ref a6, .int 0, .int (-1), .int 0, .int 0, .ref a7, .ref a8, .ref a9, .ref a10, .int 0, .int 0, .ref a11, .ref a12, .int 0, .int 0, .ref a13, .ref a14, .ref a15, .int 0, .int 0, .ref a16, .ref a17, .ref a18])), (a11, .inl (cy 1, 4096, .inl (fun _ => 0)))] (fun (v : Option Value) (w1 : va_W) => ∃ (t : Int32), ∃ (r : Int32), v = some (.int r) ∧ w1 = [(h0, .inr (11, [.int t, .ref a1, .int 0, .ref a2, .int 0, .int 0, .int 0, .int 0, .int (-1), .ref a3, .ref a4, .int 0, .int 0, .int 0, .ref a5, .ref a6, .int 0, .int (-1), .int 0, .int 0, .ref a7, .ref a8, .ref a9, .ref a10, .int 0, .int 0, .ref a11, .ref a12, .int 0, .int 0, .ref a13, .ref a14, .ref a15, .int 0, .int 0, .ref a16, .ref a17, .ref a18]))] ∧ ((t = 1 ∧ ¬ okWidth p0) ∨ (t = 2 ∧ okWidth p0 ∧ ¬ okWhat p1) ∨ (t = 0 ∧ okWidth p0 ∧ okWhat p1 ∧ r = sp_within p1))) := by
  refine kt_ofW (by decide) (Nat.le_of_ble_eq_true rfl) ?_
  intro p e s m below meth c A ls hx hb hr hU hown hlocks hml hin hP hK hD hA hS hl
  have hown : s.vm.findClass RX12 = some m.cls := hown
  have hl : lv_has ls 3 [(0, .ref h0), (1, .int p0), (2, .int p1)] := hl
  refine lv_aload_n hx hb dX12_within_0 rfl (lv_at hl 0 rfl) ?_
  refine lv_iconst (v := 0) hx hb dX12_within_1 (by decide) ?_
  refine va_put (D := G) (ci := 11) (v := .int 0) (ty := .int) (C := RX12) (T := TX12) (N := 38) hx hb hU in_X12 tyX12 tyX12_ok nmX12 hown hK.1 hP hD hS 0 rfl rfl 0 (by decide) (hU _ u_1505) (fun _ h9 => h9) rfl (by decide +kernel) rfl rfl (Nat.le_of_ble_eq_true rfl) dX12_within_2 (fun H locs hP hD hS => ?_)
  have hP : va_P G vwCl [(h0, .inr (11, [.int 0, .ref a1, .int 0, .ref a2, .int 0, .int 0, .int 0, .int 0, .int (-1), .ref a3, .ref a4, .int 0, .int 0, .int 0, .ref a5, .ref a6, .int 0, .int (-1), .int 0, .int 0, .ref a7, .ref a8, .ref a9, .ref a10, .int 0, .int 0, .ref a11, .ref a12, .int 0, .int 0, .ref a13, .ref a14, .ref a15, .int 0, .int 0, .ref a16, .ref a17, .ref a18])), (a11, .inl (cy 1, 4096, .inl (fun _ => 0)))] H := hP
  have hD : va_D A [(h0, .inr (11, [.int 0, .ref a1, .int 0, .ref a2, .int 0, .int 0, .int 0, .int 0, .int (-1), .ref a3, .ref a4, .int 0, .int 0, .int 0, .ref a5, .ref a6, .int 0, .int (-1), .int 0, .int 0, .ref a7, .ref a8, .ref a9, .ref a10, .int 0, .int 0, .ref a11, .ref a12, .int 0, .int 0, .ref a13, .ref a14, .ref a15, .int 0, .int 0, .ref a16, .ref a17, .ref a18])), (a11, .inl (cy 1, 4096, .inl (fun _ => 0)))] := hD
  refine lv_aload_n hx hb dX12_within_5 rfl (lv_at hl 0 rfl) ?_
  refine lv_iload_n hx hb dX12_within_6 rfl (lv_at hl 1 rfl) ?_
  refine lv_iconst (v := 0) hx hb dX12_within_7 (by decide) ?_
  refine lv_bipush (v := 6) hx hb dX12_within_8 (by decide) ?_
  refine kt_callS (wc := []) (wr := [(h0, .inr (11, [.int 0, .ref a1, .int 0, .ref a2, .int 0, .int 0, .int 0, .int 0, .int (-1), .ref a3, .ref a4, .int 0, .int 0, .int 0, .ref a5, .ref a6, .int 0, .int (-1), .int 0, .int 0, .ref a7, .ref a8, .ref a9, .ref a10, .int 0, .int 0, .ref a11, .ref a12, .int 0, .int 0, .ref a13, .ref a14, .ref a15, .int 0, .int 0, .ref a16, .ref a17, .ref a18])), (a11, .inl (cy 1, 4096, .inl (fun _ => 0)))]) (As := [.int p0, .int 0, .int 6]) (rest := [.ref h0]) (c_X12_in l G cy p0 0 6) m_X12_in u_1732 hx hb hml hown hU hl.1 hK hP hD hS hA dX12_within_10 [] [0, 1] rfl rfl rfl rfl rfl rfl (Nat.le_of_ble_eq_true rfl) (fun v9 w9 H locs hw hP hD hS => ?_)
  obtain ⟨x_1, rfl, rfl, hp_2⟩ := hw
  rcases hp_2 with ⟨rfl, hp_2b⟩ | ⟨rfl, hp_2b⟩
  · have hP : va_P G vwCl [(h0, .inr (11, [.int 0, .ref a1, .int 0, .ref a2, .int 0, .int 0, .int 0, .int 0, .int (-1), .ref a3, .ref a4, .int 0, .int 0, .int 0, .ref a5, .ref a6, .int 0, .int (-1), .int 0, .int 0, .ref a7, .ref a8, .ref a9, .ref a10, .int 0, .int 0, .ref a11, .ref a12, .int 0, .int 0, .ref a13, .ref a14, .ref a15, .int 0, .int 0, .ref a16, .ref a17, .ref a18])), (a11, .inl (cy 1, 4096, .inl (fun _ => 0)))] H := hP
    have hD : va_D A [(h0, .inr (11, [.int 0, .ref a1, .int 0, .ref a2, .int 0, .int 0, .int 0, .int 0, .int (-1), .ref a3, .ref a4, .int 0, .int 0, .int 0, .ref a5, .ref a6, .int 0, .int (-1), .int 0, .int 0, .ref a7, .ref a8, .ref a9, .ref a10, .int 0, .int 0, .ref a11, .ref a12, .int 0, .int 0, .ref a13, .ref a14, .ref a15, .int 0, .int 0, .ref a16, .ref a17, .ref a18])), (a11, .inl (cy 1, 4096, .inl (fun _ => 0)))] := hD
    refine W.eq (g2 := F0 m 13 ls [.int 1, .ref h0]) rfl ?_
    refine W.widen (k := 0) (n := 0) (Nat.le_of_ble_eq_true rfl) (Nat.le_of_ble_eq_true rfl) ?_
    refine lv_if_ne (tgt := 20) hx hb dX12_within_13 (by decide) (fun _ => ?_) (fun c9 => absurd c9 (by decide))
    refine lv_iconst (v := 0) hx hb dX12_within_20 (by decide) ?_
    refine lv_iconst (v := 1) hx hb dX12_within_21 (by decide) ?_
    refine kt_callV (wc := [(h0, .inr (11, [.int 0, .ref a1, .int 0, .ref a2, .int 0, .int 0, .int 0, .int 0, .int (-1), .ref a3, .ref a4, .int 0, .int 0, .int 0, .ref a5, .ref a6, .int 0, .int (-1), .int 0, .int 0, .ref a7, .ref a8, .ref a9, .ref a10, .int 0, .int 0, .ref a11, .ref a12, .int 0, .int 0, .ref a13, .ref a14, .ref a15, .int 0, .int 0, .ref a16, .ref a17, .ref a18]))]) (wr := [(a11, .inl (cy 1, 4096, .inl (fun _ => 0)))]) (As := [.int 0, .int 1]) (rest := []) (c_X12_throwsIf_0 l G cy h0 a1 a2 a3 a4 a5 a6 a7 a8 a9 a10 a11 a12 a13 a14 a15 a16 a17 a18 1) m_X12_throwsIf u_1752 hx hb hml hown hU hl.1 hK hP hD hS hA dX12_within_22 [0] [1] rfl rfl rfl rfl rfl rfl (Nat.le_of_ble_eq_true rfl) (ci := 11) rfl rfl rfl (fun v9 w9 H locs hw hP hD hS => ?_)
    obtain ⟨rfl, rfl⟩ := hw
    have hP : va_P G vwCl [(a11, .inl (cy 1, 4096, .inl (fun _ => 0))), (h0, .inr (11, [.int 0, .ref a1, .int 0, .ref a2, .int 0, .int 0, .int 0, .int 0, .int (-1), .ref a3, .ref a4, .int 0, .int 0, .int 0, .ref a5, .ref a6, .int 0, .int (-1), .int 0, .int 0, .ref a7, .ref a8, .ref a9, .ref a10, .int 0, .int 0, .ref a11, .ref a12, .int 0, .int 0, .ref a13, .ref a14, .ref a15, .int 0, .int 0, .ref a16, .ref a17, .ref a18]))] H := hP
    have hD : va_D A [(a11, .inl (cy 1, 4096, .inl (fun _ => 0))), (h0, .inr (11, [.int 0, .ref a1, .int 0, .ref a2, .int 0, .int 0, .int 0, .int 0, .int (-1), .ref a3, .ref a4, .int 0, .int 0, .int 0, .ref a5, .ref a6, .int 0, .int (-1), .int 0, .int 0, .ref a7, .ref a8, .ref a9, .ref a10, .int 0, .int 0, .ref a11, .ref a12, .int 0, .int 0, .ref a13, .ref a14, .ref a15, .int 0, .int 0, .ref a16, .ref a17, .ref a18]))] := hD
    refine W.eq (g2 := F0 m 25 ls [.int 0]) rfl ?_
    refine W.widen (k := 0) (n := 0) (Nat.le_of_ble_eq_true rfl) (Nat.le_of_ble_eq_true rfl) ?_
    refine lv_if_ne (tgt := 50) hx hb dX12_within_25 (by decide) (fun c9 => absurd (by decide) c9) (fun _ => ?_)
    refine lv_aload_n hx hb dX12_within_28 rfl (lv_at hl 0 rfl) ?_
    refine lv_iload_n hx hb dX12_within_29 rfl (lv_at hl 2 rfl) ?_
    refine lv_iconst (v := 0) hx hb dX12_within_30 (by decide) ?_
    refine lv_iconst (v := 2) hx hb dX12_within_31 (by decide) ?_
    refine kt_callS (wc := []) (wr := [(a11, .inl (cy 1, 4096, .inl (fun _ => 0))), (h0, .inr (11, [.int 0, .ref a1, .int 0, .ref a2, .int 0, .int 0, .int 0, .int 0, .int (-1), .ref a3, .ref a4, .int 0, .int 0, .int 0, .ref a5, .ref a6, .int 0, .int (-1), .int 0, .int 0, .ref a7, .ref a8, .ref a9, .ref a10, .int 0, .int 0, .ref a11, .ref a12, .int 0, .int 0, .ref a13, .ref a14, .ref a15, .int 0, .int 0, .ref a16, .ref a17, .ref a18]))]) (As := [.int p1, .int 0, .int 2]) (rest := [.ref h0]) (c_X12_in l G cy p1 0 2) m_X12_in u_1732 hx hb hml hown hU hl.1 hK hP hD hS hA dX12_within_32 [] [0, 1] rfl rfl rfl rfl rfl rfl (Nat.le_of_ble_eq_true rfl) (fun v9 w9 H locs hw hP hD hS => ?_)
    obtain ⟨x_3, rfl, rfl, hp_4⟩ := hw
    rcases hp_4 with ⟨rfl, hp_4b⟩ | ⟨rfl, hp_4b⟩
    · have hP : va_P G vwCl [(a11, .inl (cy 1, 4096, .inl (fun _ => 0))), (h0, .inr (11, [.int 0, .ref a1, .int 0, .ref a2, .int 0, .int 0, .int 0, .int 0, .int (-1), .ref a3, .ref a4, .int 0, .int 0, .int 0, .ref a5, .ref a6, .int 0, .int (-1), .int 0, .int 0, .ref a7, .ref a8, .ref a9, .ref a10, .int 0, .int 0, .ref a11, .ref a12, .int 0, .int 0, .ref a13, .ref a14, .ref a15, .int 0, .int 0, .ref a16, .ref a17, .ref a18]))] H := hP
      have hD : va_D A [(a11, .inl (cy 1, 4096, .inl (fun _ => 0))), (h0, .inr (11, [.int 0, .ref a1, .int 0, .ref a2, .int 0, .int 0, .int 0, .int 0, .int (-1), .ref a3, .ref a4, .int 0, .int 0, .int 0, .ref a5, .ref a6, .int 0, .int (-1), .int 0, .int 0, .ref a7, .ref a8, .ref a9, .ref a10, .int 0, .int 0, .ref a11, .ref a12, .int 0, .int 0, .ref a13, .ref a14, .ref a15, .int 0, .int 0, .ref a16, .ref a17, .ref a18]))] := hD
      refine W.eq (g2 := F0 m 35 ls [.int 1, .ref h0]) rfl ?_
      refine W.widen (k := 0) (n := 0) (Nat.le_of_ble_eq_true rfl) (Nat.le_of_ble_eq_true rfl) ?_
      refine lv_if_ne (tgt := 42) hx hb dX12_within_35 (by decide) (fun _ => ?_) (fun c9 => absurd c9 (by decide))
      refine lv_iconst (v := 0) hx hb dX12_within_42 (by decide) ?_
      refine lv_iconst (v := 2) hx hb dX12_within_43 (by decide) ?_
      refine kt_callV (wc := [(h0, .inr (11, [.int 0, .ref a1, .int 0, .ref a2, .int 0, .int 0, .int 0, .int 0, .int (-1), .ref a3, .ref a4, .int 0, .int 0, .int 0, .ref a5, .ref a6, .int 0, .int (-1), .int 0, .int 0, .ref a7, .ref a8, .ref a9, .ref a10, .int 0, .int 0, .ref a11, .ref a12, .int 0, .int 0, .ref a13, .ref a14, .ref a15, .int 0, .int 0, .ref a16, .ref a17, .ref a18]))]) (wr := [(a11, .inl (cy 1, 4096, .inl (fun _ => 0)))]) (As := [.int 0, .int 2]) (rest := []) (c_X12_throwsIf_0 l G cy h0 a1 a2 a3 a4 a5 a6 a7 a8 a9 a10 a11 a12 a13 a14 a15 a16 a17 a18 2) m_X12_throwsIf u_1752 hx hb hml hown hU hl.1 hK hP hD hS hA dX12_within_44 [1] [0] rfl rfl rfl rfl rfl rfl (Nat.le_of_ble_eq_true rfl) (ci := 11) rfl rfl rfl (fun v9 w9 H locs hw hP hD hS => ?_)
      obtain ⟨rfl, rfl⟩ := hw
      have hP : va_P G vwCl [(a11, .inl (cy 1, 4096, .inl (fun _ => 0))), (h0, .inr (11, [.int 0, .ref a1, .int 0, .ref a2, .int 0, .int 0, .int 0, .int 0, .int (-1), .ref a3, .ref a4, .int 0, .int 0, .int 0, .ref a5, .ref a6, .int 0, .int (-1), .int 0, .int 0, .ref a7, .ref a8, .ref a9, .ref a10, .int 0, .int 0, .ref a11, .ref a12, .int 0, .int 0, .ref a13, .ref a14, .ref a15, .int 0, .int 0, .ref a16, .ref a17, .ref a18]))] H := hP
      have hD : va_D A [(a11, .inl (cy 1, 4096, .inl (fun _ => 0))), (h0, .inr (11, [.int 0, .ref a1, .int 0, .ref a2, .int 0, .int 0, .int 0, .int 0, .int (-1), .ref a3, .ref a4, .int 0, .int 0, .int 0, .ref a5, .ref a6, .int 0, .int (-1), .int 0, .int 0, .ref a7, .ref a8, .ref a9, .ref a10, .int 0, .int 0, .ref a11, .ref a12, .int 0, .int 0, .ref a13, .ref a14, .ref a15, .int 0, .int 0, .ref a16, .ref a17, .ref a18]))] := hD
      refine W.eq (g2 := F0 m 47 ls [.int 0]) rfl ?_
      refine W.widen (k := 0) (n := 0) (Nat.le_of_ble_eq_true rfl) (Nat.le_of_ble_eq_true rfl) ?_
      refine lv_if_eq (tgt := 52) hx hb dX12_within_47 (by decide) (fun _ => ?_) (fun c9 => absurd (by decide) c9)
      refine lv_aload_n hx hb dX12_within_52 rfl (lv_at hl 0 rfl) ?_
      refine lv_iload_n hx hb dX12_within_53 rfl (lv_at hl 1 rfl) ?_
      refine kt_callV (wc := [(h0, .inr (11, [.int 0, .ref a1, .int 0, .ref a2, .int 0, .int 0, .int 0, .int 0, .int (-1), .ref a3, .ref a4, .int 0, .int 0, .int 0, .ref a5, .ref a6, .int 0, .int (-1), .int 0, .int 0, .ref a7, .ref a8, .ref a9, .ref a10, .int 0, .int 0, .ref a11, .ref a12, .int 0, .int 0, .ref a13, .ref a14, .ref a15, .int 0, .int 0, .ref a16, .ref a17, .ref a18])), (a11, .inl (cy 1, 4096, .inl (fun _ => 0)))]) (wr := []) (As := [.int p0]) (rest := []) (c_X12_laysWithin l G cy h0 a1 a2 a3 a4 a5 a6 a7 a8 a9 a10 a11 a12 a13 a14 a15 a16 a17 a18 p0 (fun _ => 0)) m_X12_laysWithin u_1971 hx hb hml hown hU hl.1 hK hP hD hS hA dX12_within_54 [1, 0] [] rfl rfl rfl rfl rfl rfl (Nat.le_of_ble_eq_true rfl) (ci := 11) rfl rfl rfl (fun v9 w9 H locs hw hP hD hS => ?_)
      obtain ⟨rfl, rfl⟩ := hw
      have hP : va_P G vwCl [(h0, .inr (11, [.int 0, .ref a1, .int 0, .ref a2, .int 0, .int 0, .int 0, .int 0, .int (-1), .ref a3, .ref a4, .int 0, .int 0, .int 0, .ref a5, .ref a6, .int 0, .int (-1), .int 0, .int 0, .ref a7, .ref a8, .ref a9, .ref a10, .int 0, .int 0, .ref a11, .ref a12, .int 0, .int 0, .ref a13, .ref a14, .ref a15, .int 0, .int 0, .ref a16, .ref a17, .ref a18])), (a11, .inl (cy 1, 4096, .inl (cmF (fun _ => 0) 4096)))] H := hP
      have hD : va_D A [(h0, .inr (11, [.int 0, .ref a1, .int 0, .ref a2, .int 0, .int 0, .int 0, .int 0, .int (-1), .ref a3, .ref a4, .int 0, .int 0, .int 0, .ref a5, .ref a6, .int 0, .int (-1), .int 0, .int 0, .ref a7, .ref a8, .ref a9, .ref a10, .int 0, .int 0, .ref a11, .ref a12, .int 0, .int 0, .ref a13, .ref a14, .ref a15, .int 0, .int 0, .ref a16, .ref a17, .ref a18])), (a11, .inl (cy 1, 4096, .inl (cmF (fun _ => 0) 4096)))] := hD
      refine W.eq (g2 := F0 m 57 ls []) rfl ?_
      refine W.widen (k := 0) (n := 0) (Nat.le_of_ble_eq_true rfl) (Nat.le_of_ble_eq_true rfl) ?_
      refine lv_iload_n hx hb dX12_within_57 rfl (lv_at hl 2 rfl) ?_
      refine lv_if_ne (tgt := 68) hx hb dX12_within_58 (by decide) (fun c_5 => ?_) (fun c_5 => ?_)
      · refine lv_iload_n hx hb dX12_within_68 rfl (lv_at hl 2 rfl) ?_
        refine lv_iconst (v := 1) hx hb dX12_within_69 (by decide) ?_
        refine lv_icmp_ne (tgt := 80) hx hb dX12_within_70 (by decide) (fun c_6 => ?_) (fun c_6 => ?_)
        · refine lv_aload_n hx hb dX12_within_80 rfl (lv_at hl 0 rfl) ?_
          refine va_get (D := G) (ci := 11) (v := .ref a11) (C := RX12) (T := TX12) (N := 38) hx hb hU in_X12 hown hK.1 hP 0 rfl rfl 26 (by decide) (hU _ u_1531) (fun _ h9 => h9) rfl dX12_within_81 ?_
          refine lv_iconst (v := 0) hx hb dX12_within_84 (by decide) ?_
          refine va_iald hx hb hK.1 hP 1 1 rfl rfl (lx_in (by decide +kernel)) dX12_within_85 (lx_top (y := (-1)) (cmF_at (lx_in (by decide +kernel))) ?_)
          exact kt_iret hx hb hr hlocks hP hD hS dX12_within_86 [0] rfl rfl rfl rfl ⟨0, (-1), rfl, rfl, (Or.inr (Or.inr ⟨rfl, by unfold okWidth; assumption, by unfold okWhat; assumption, (by simp [sp_within, c_5, c_6])⟩))⟩
        · refine lv_aload_n hx hb dX12_within_73 rfl (lv_at hl 0 rfl) ?_
          refine va_get (D := G) (ci := 11) (v := .int 0) (C := RX12) (T := TX12) (N := 38) hx hb hU in_X12 hown hK.1 hP 0 rfl rfl 29 (by decide) (hU _ u_1534) (fun _ h9 => h9) rfl dX12_within_74 ?_
          refine lv_goto (tgt := 86) hx hb dX12_within_77 (by decide) ?_
          exact kt_iret hx hb hr hlocks hP hD hS dX12_within_86 [0] rfl rfl rfl rfl ⟨0, 0, rfl, rfl, (Or.inr (Or.inr ⟨rfl, by unfold okWidth; assumption, by unfold okWhat; assumption, (by simp [sp_within, c_5, c_6])⟩))⟩
      · refine lv_aload_n hx hb dX12_within_61 rfl (lv_at hl 0 rfl) ?_
        refine va_get (D := G) (ci := 11) (v := .int 0) (C := RX12) (T := TX12) (N := 38) hx hb hU in_X12 hown hK.1 hP 0 rfl rfl 28 (by decide) (hU _ u_1533) (fun _ h9 => h9) rfl dX12_within_62 ?_
        refine lv_goto (tgt := 86) hx hb dX12_within_65 (by decide) ?_
        exact kt_iret hx hb hr hlocks hP hD hS dX12_within_86 [0] rfl rfl rfl rfl ⟨0, 0, rfl, rfl, (Or.inr (Or.inr ⟨rfl, by unfold okWidth; assumption, by unfold okWhat; assumption, (by simp [sp_within, c_5])⟩))⟩
    · have hP : va_P G vwCl [(a11, .inl (cy 1, 4096, .inl (fun _ => 0))), (h0, .inr (11, [.int 0, .ref a1, .int 0, .ref a2, .int 0, .int 0, .int 0, .int 0, .int (-1), .ref a3, .ref a4, .int 0, .int 0, .int 0, .ref a5, .ref a6, .int 0, .int (-1), .int 0, .int 0, .ref a7, .ref a8, .ref a9, .ref a10, .int 0, .int 0, .ref a11, .ref a12, .int 0, .int 0, .ref a13, .ref a14, .ref a15, .int 0, .int 0, .ref a16, .ref a17, .ref a18]))] H := hP
      have hD : va_D A [(a11, .inl (cy 1, 4096, .inl (fun _ => 0))), (h0, .inr (11, [.int 0, .ref a1, .int 0, .ref a2, .int 0, .int 0, .int 0, .int 0, .int (-1), .ref a3, .ref a4, .int 0, .int 0, .int 0, .ref a5, .ref a6, .int 0, .int (-1), .int 0, .int 0, .ref a7, .ref a8, .ref a9, .ref a10, .int 0, .int 0, .ref a11, .ref a12, .int 0, .int 0, .ref a13, .ref a14, .ref a15, .int 0, .int 0, .ref a16, .ref a17, .ref a18]))] := hD
      refine W.eq (g2 := F0 m 35 ls [.int 0, .ref h0]) rfl ?_
      refine W.widen (k := 0) (n := 0) (Nat.le_of_ble_eq_true rfl) (Nat.le_of_ble_eq_true rfl) ?_
      refine lv_if_ne (tgt := 42) hx hb dX12_within_35 (by decide) (fun c9 => absurd (by decide) c9) (fun _ => ?_)
      refine lv_iconst (v := 1) hx hb dX12_within_38 (by decide) ?_
      refine lv_goto (tgt := 43) hx hb dX12_within_39 (by decide) ?_
      refine lv_iconst (v := 2) hx hb dX12_within_43 (by decide) ?_
      refine kt_callV (wc := [(h0, .inr (11, [.int 0, .ref a1, .int 0, .ref a2, .int 0, .int 0, .int 0, .int 0, .int (-1), .ref a3, .ref a4, .int 0, .int 0, .int 0, .ref a5, .ref a6, .int 0, .int (-1), .int 0, .int 0, .ref a7, .ref a8, .ref a9, .ref a10, .int 0, .int 0, .ref a11, .ref a12, .int 0, .int 0, .ref a13, .ref a14, .ref a15, .int 0, .int 0, .ref a16, .ref a17, .ref a18]))]) (wr := [(a11, .inl (cy 1, 4096, .inl (fun _ => 0)))]) (As := [.int 1, .int 2]) (rest := []) (c_X12_throwsIf_1 l G cy h0 a1 a2 a3 a4 a5 a6 a7 a8 a9 a10 a11 a12 a13 a14 a15 a16 a17 a18 2) m_X12_throwsIf u_1752 hx hb hml hown hU hl.1 hK hP hD hS hA dX12_within_44 [1] [0] rfl rfl rfl rfl rfl rfl (Nat.le_of_ble_eq_true rfl) (ci := 11) rfl rfl rfl (fun v9 w9 H locs hw hP hD hS => ?_)
      obtain ⟨rfl, rfl⟩ := hw
      have hP : va_P G vwCl [(a11, .inl (cy 1, 4096, .inl (fun _ => 0))), (h0, .inr (11, [.int 2, .ref a1, .int 0, .ref a2, .int 0, .int 0, .int 0, .int 0, .int (-1), .ref a3, .ref a4, .int 0, .int 0, .int 0, .ref a5, .ref a6, .int 0, .int (-1), .int 0, .int 0, .ref a7, .ref a8, .ref a9, .ref a10, .int 0, .int 0, .ref a11, .ref a12, .int 0, .int 0, .ref a13, .ref a14, .ref a15, .int 0, .int 0, .ref a16, .ref a17, .ref a18]))] H := hP
      have hD : va_D A [(a11, .inl (cy 1, 4096, .inl (fun _ => 0))), (h0, .inr (11, [.int 2, .ref a1, .int 0, .ref a2, .int 0, .int 0, .int 0, .int 0, .int (-1), .ref a3, .ref a4, .int 0, .int 0, .int 0, .ref a5, .ref a6, .int 0, .int (-1), .int 0, .int 0, .ref a7, .ref a8, .ref a9, .ref a10, .int 0, .int 0, .ref a11, .ref a12, .int 0, .int 0, .ref a13, .ref a14, .ref a15, .int 0, .int 0, .ref a16, .ref a17, .ref a18]))] := hD
      refine W.eq (g2 := F0 m 47 ls [.int 1]) rfl ?_
      refine W.widen (k := 0) (n := 0) (Nat.le_of_ble_eq_true rfl) (Nat.le_of_ble_eq_true rfl) ?_
      refine lv_if_eq (tgt := 52) hx hb dX12_within_47 (by decide) (fun c9 => absurd c9 (by decide)) (fun _ => ?_)
      refine lv_iconst (v := 0) hx hb dX12_within_50 (by decide) ?_
      exact kt_iret hx hb hr hlocks hP hD hS dX12_within_51 [1] rfl rfl rfl rfl ⟨2, 0, rfl, rfl, (Or.inr (Or.inl ⟨rfl, by unfold okWidth; assumption, by unfold okWhat; assumption⟩))⟩
  · have hP : va_P G vwCl [(h0, .inr (11, [.int 0, .ref a1, .int 0, .ref a2, .int 0, .int 0, .int 0, .int 0, .int (-1), .ref a3, .ref a4, .int 0, .int 0, .int 0, .ref a5, .ref a6, .int 0, .int (-1), .int 0, .int 0, .ref a7, .ref a8, .ref a9, .ref a10, .int 0, .int 0, .ref a11, .ref a12, .int 0, .int 0, .ref a13, .ref a14, .ref a15, .int 0, .int 0, .ref a16, .ref a17, .ref a18])), (a11, .inl (cy 1, 4096, .inl (fun _ => 0)))] H := hP
    have hD : va_D A [(h0, .inr (11, [.int 0, .ref a1, .int 0, .ref a2, .int 0, .int 0, .int 0, .int 0, .int (-1), .ref a3, .ref a4, .int 0, .int 0, .int 0, .ref a5, .ref a6, .int 0, .int (-1), .int 0, .int 0, .ref a7, .ref a8, .ref a9, .ref a10, .int 0, .int 0, .ref a11, .ref a12, .int 0, .int 0, .ref a13, .ref a14, .ref a15, .int 0, .int 0, .ref a16, .ref a17, .ref a18])), (a11, .inl (cy 1, 4096, .inl (fun _ => 0)))] := hD
    refine W.eq (g2 := F0 m 13 ls [.int 0, .ref h0]) rfl ?_
    refine W.widen (k := 0) (n := 0) (Nat.le_of_ble_eq_true rfl) (Nat.le_of_ble_eq_true rfl) ?_
    refine lv_if_ne (tgt := 20) hx hb dX12_within_13 (by decide) (fun c9 => absurd (by decide) c9) (fun _ => ?_)
    refine lv_iconst (v := 1) hx hb dX12_within_16 (by decide) ?_
    refine lv_goto (tgt := 21) hx hb dX12_within_17 (by decide) ?_
    refine lv_iconst (v := 1) hx hb dX12_within_21 (by decide) ?_
    refine kt_callV (wc := [(h0, .inr (11, [.int 0, .ref a1, .int 0, .ref a2, .int 0, .int 0, .int 0, .int 0, .int (-1), .ref a3, .ref a4, .int 0, .int 0, .int 0, .ref a5, .ref a6, .int 0, .int (-1), .int 0, .int 0, .ref a7, .ref a8, .ref a9, .ref a10, .int 0, .int 0, .ref a11, .ref a12, .int 0, .int 0, .ref a13, .ref a14, .ref a15, .int 0, .int 0, .ref a16, .ref a17, .ref a18]))]) (wr := [(a11, .inl (cy 1, 4096, .inl (fun _ => 0)))]) (As := [.int 1, .int 1]) (rest := []) (c_X12_throwsIf_1 l G cy h0 a1 a2 a3 a4 a5 a6 a7 a8 a9 a10 a11 a12 a13 a14 a15 a16 a17 a18 1) m_X12_throwsIf u_1752 hx hb hml hown hU hl.1 hK hP hD hS hA dX12_within_22 [0] [1] rfl rfl rfl rfl rfl rfl (Nat.le_of_ble_eq_true rfl) (ci := 11) rfl rfl rfl (fun v9 w9 H locs hw hP hD hS => ?_)
    obtain ⟨rfl, rfl⟩ := hw
    have hP : va_P G vwCl [(a11, .inl (cy 1, 4096, .inl (fun _ => 0))), (h0, .inr (11, [.int 1, .ref a1, .int 0, .ref a2, .int 0, .int 0, .int 0, .int 0, .int (-1), .ref a3, .ref a4, .int 0, .int 0, .int 0, .ref a5, .ref a6, .int 0, .int (-1), .int 0, .int 0, .ref a7, .ref a8, .ref a9, .ref a10, .int 0, .int 0, .ref a11, .ref a12, .int 0, .int 0, .ref a13, .ref a14, .ref a15, .int 0, .int 0, .ref a16, .ref a17, .ref a18]))] H := hP
    have hD : va_D A [(a11, .inl (cy 1, 4096, .inl (fun _ => 0))), (h0, .inr (11, [.int 1, .ref a1, .int 0, .ref a2, .int 0, .int 0, .int 0, .int 0, .int (-1), .ref a3, .ref a4, .int 0, .int 0, .int 0, .ref a5, .ref a6, .int 0, .int (-1), .int 0, .int 0, .ref a7, .ref a8, .ref a9, .ref a10, .int 0, .int 0, .ref a11, .ref a12, .int 0, .int 0, .ref a13, .ref a14, .ref a15, .int 0, .int 0, .ref a16, .ref a17, .ref a18]))] := hD
    refine W.eq (g2 := F0 m 25 ls [.int 1]) rfl ?_
    refine W.widen (k := 0) (n := 0) (Nat.le_of_ble_eq_true rfl) (Nat.le_of_ble_eq_true rfl) ?_
    refine lv_if_ne (tgt := 50) hx hb dX12_within_25 (by decide) (fun _ => ?_) (fun c9 => absurd c9 (by decide))
    refine lv_iconst (v := 0) hx hb dX12_within_50 (by decide) ?_
    exact kt_iret hx hb hr hlocks hP hD hS dX12_within_51 [1] rfl rfl rfl rfl ⟨1, 0, rfl, rfl, (Or.inl ⟨rfl, by unfold okWidth; assumption⟩)⟩
set_option maxHeartbeats 4000000 in
set_option maxRecDepth 100000 in
theorem c_X12_leastWidth (l : Launch) (G : va_G) (cy : Nat → ClassId) (h0 : Nat) (a1 : Nat) (a2 : Nat) (a3 : Nat) (a4 : Nat) (a5 : Nat) (a6 : Nat) (a7 : Nat) (a8 : Nat) (a9 : Nat) (a10 : Nat) (a11 : Nat) (a12 : Nat) (a13 : Nat) (a14 : Nat) (a15 : Nat) (a16 : Nat) (a17 : Nat) (a18 : Nat) : Kt l G cy yX12_leastWidth cX12_leastWidth 2 (some .int) ({ frames := 12, cells := 0, slots := 0, locals := 300 } : Room) [.ref h0] [(h0, .inr (11, [.int 0, .ref a1, .int 0, .ref a2, .int 0, .int 0, .int 0, .int 0, .int (-1), .ref a3, .ref a4, .int 0, .int 0, .int 0, .ref a5, .ref a6, .int 0, .int (-1), .int 0, .int 0, .ref a7, .ref a8, .ref a9, .ref a10, .int 0, .int 0, .ref a11, .ref a12, .int 0, .int 0, .ref a13, .ref a14, .ref a15, .int 0, .int 0, .ref a16, .ref a17, .ref a18])), (a11, .inl (cy 1, 4096, .inl (fun _ => 0)))] (fun (v : Option Value) (w1 : va_W) => v = some (.int (-1)) ∧ w1 = []) := by
  refine kt_ofW (by decide) (Nat.le_of_ble_eq_true rfl) ?_
  intro p e s m below meth c A ls hx hb hr hU hown hlocks hml hin hP hK hD hA hS hl
  have hown : s.vm.findClass RX12 = some m.cls := hown
  have hl : lv_has ls 2 [(0, .ref h0)] := hl
  refine lv_aload_n hx hb dX12_leastWidth_0 rfl (lv_at hl 0 rfl) ?_
  refine lv_iconst (v := 0) hx hb dX12_leastWidth_1 (by decide) ?_
  refine va_put (D := G) (ci := 11) (v := .int 0) (ty := .int) (C := RX12) (T := TX12) (N := 38) hx hb hU in_X12 tyX12 tyX12_ok nmX12 hown hK.1 hP hD hS 0 rfl rfl 0 (by decide) (hU _ u_1505) (fun _ h9 => h9) rfl (by decide +kernel) rfl rfl (Nat.le_of_ble_eq_true rfl) dX12_leastWidth_2 (fun H locs hP hD hS => ?_)
  have hP : va_P G vwCl [(h0, .inr (11, [.int 0, .ref a1, .int 0, .ref a2, .int 0, .int 0, .int 0, .int 0, .int (-1), .ref a3, .ref a4, .int 0, .int 0, .int 0, .ref a5, .ref a6, .int 0, .int (-1), .int 0, .int 0, .ref a7, .ref a8, .ref a9, .ref a10, .int 0, .int 0, .ref a11, .ref a12, .int 0, .int 0, .ref a13, .ref a14, .ref a15, .int 0, .int 0, .ref a16, .ref a17, .ref a18])), (a11, .inl (cy 1, 4096, .inl (fun _ => 0)))] H := hP
  have hD : va_D A [(h0, .inr (11, [.int 0, .ref a1, .int 0, .ref a2, .int 0, .int 0, .int 0, .int 0, .int (-1), .ref a3, .ref a4, .int 0, .int 0, .int 0, .ref a5, .ref a6, .int 0, .int (-1), .int 0, .int 0, .ref a7, .ref a8, .ref a9, .ref a10, .int 0, .int 0, .ref a11, .ref a12, .int 0, .int 0, .ref a13, .ref a14, .ref a15, .int 0, .int 0, .ref a16, .ref a17, .ref a18])), (a11, .inl (cy 1, 4096, .inl (fun _ => 0)))] := hD
  refine lv_iconst (v := 0) hx hb dX12_leastWidth_5 (by decide) ?_
  refine lv_istore_n (lv' := [(1, .int 0), (0, .ref h0)]) hx hb dX12_leastWidth_6 rfl hl (by decide) rfl (fun ls hl => ?_)
  refine lv_iload_n hx hb dX12_leastWidth_7 rfl (lv_at hl 0 rfl) ?_
  refine lv_bipush (v := 6) hx hb dX12_leastWidth_8 (by decide) ?_
  refine lv_icmp_gt (tgt := 36) hx hb dX12_leastWidth_10 (by decide) (fun c9 => absurd c9 (by decide)) (fun _ => ?_)
  refine lv_aload_n hx hb dX12_leastWidth_13 rfl (lv_at hl 1 rfl) ?_
  refine lv_iload_n hx hb dX12_leastWidth_14 rfl (lv_at hl 0 rfl) ?_
  refine kt_callV (wc := [(h0, .inr (11, [.int 0, .ref a1, .int 0, .ref a2, .int 0, .int 0, .int 0, .int 0, .int (-1), .ref a3, .ref a4, .int 0, .int 0, .int 0, .ref a5, .ref a6, .int 0, .int (-1), .int 0, .int 0, .ref a7, .ref a8, .ref a9, .ref a10, .int 0, .int 0, .ref a11, .ref a12, .int 0, .int 0, .ref a13, .ref a14, .ref a15, .int 0, .int 0, .ref a16, .ref a17, .ref a18])), (a11, .inl (cy 1, 4096, .inl (fun _ => 0)))]) (wr := []) (As := [.int 0]) (rest := []) (c_X12_laysWithin l G cy h0 a1 a2 a3 a4 a5 a6 a7 a8 a9 a10 a11 a12 a13 a14 a15 a16 a17 a18 0 (fun _ => 0)) m_X12_laysWithin u_1971 hx hb hml hown hU hl.1 hK hP hD hS hA dX12_leastWidth_15 [0, 1] [] rfl rfl rfl rfl rfl rfl (Nat.le_of_ble_eq_true rfl) (ci := 11) rfl rfl rfl (fun v9 w9 H locs hw hP hD hS => ?_)
  obtain ⟨rfl, rfl⟩ := hw
  have hP : va_P G vwCl [(h0, .inr (11, [.int 0, .ref a1, .int 0, .ref a2, .int 0, .int 0, .int 0, .int 0, .int (-1), .ref a3, .ref a4, .int 0, .int 0, .int 0, .ref a5, .ref a6, .int 0, .int (-1), .int 0, .int 0, .ref a7, .ref a8, .ref a9, .ref a10, .int 0, .int 0, .ref a11, .ref a12, .int 0, .int 0, .ref a13, .ref a14, .ref a15, .int 0, .int 0, .ref a16, .ref a17, .ref a18])), (a11, .inl (cy 1, 4096, .inl (cmF (fun _ => 0) 4096)))] H := hP
  have hD : va_D A [(h0, .inr (11, [.int 0, .ref a1, .int 0, .ref a2, .int 0, .int 0, .int 0, .int 0, .int (-1), .ref a3, .ref a4, .int 0, .int 0, .int 0, .ref a5, .ref a6, .int 0, .int (-1), .int 0, .int 0, .ref a7, .ref a8, .ref a9, .ref a10, .int 0, .int 0, .ref a11, .ref a12, .int 0, .int 0, .ref a13, .ref a14, .ref a15, .int 0, .int 0, .ref a16, .ref a17, .ref a18])), (a11, .inl (cy 1, 4096, .inl (cmF (fun _ => 0) 4096)))] := hD
  refine W.eq (g2 := F0 m 18 ls []) rfl ?_
  refine W.widen (k := 0) (n := 0) (Nat.le_of_ble_eq_true rfl) (Nat.le_of_ble_eq_true rfl) ?_
  refine lv_aload_n hx hb dX12_leastWidth_18 rfl (lv_at hl 1 rfl) ?_
  refine va_get (D := G) (ci := 11) (v := .ref a11) (C := RX12) (T := TX12) (N := 38) hx hb hU in_X12 hown hK.1 hP 0 rfl rfl 26 (by decide) (hU _ u_1531) (fun _ h9 => h9) rfl dX12_leastWidth_19 ?_
  refine lv_iconst (v := 0) hx hb dX12_leastWidth_22 (by decide) ?_
  refine va_iald hx hb hK.1 hP 1 1 rfl rfl (lx_in (by decide +kernel)) dX12_leastWidth_23 (lx_top (y := (-1)) (cmF_at (lx_in (by decide +kernel))) ?_)
  refine lv_iconst (v := (-1)) hx hb dX12_leastWidth_24 (by decide) ?_
  refine lv_icmp_eq (tgt := 30) hx hb dX12_leastWidth_25 (by decide) (fun _ => ?_) (fun c9 => absurd (by decide) c9)
  refine lv_iinc (v := 1) (lv' := [(1, .int 1), (0, .ref h0)]) hx hb dX12_leastWidth_30 hl (k := 0) rfl (by decide) (by decide) rfl (fun ls hl => ?_)
  refine lv_goto (tgt := 7) hx hb dX12_leastWidth_33 (by decide) ?_
  refine lv_iload_n hx hb dX12_leastWidth_7 rfl (lv_at hl 0 rfl) ?_
  refine lv_bipush (v := 6) hx hb dX12_leastWidth_8 (by decide) ?_
  refine lv_icmp_gt (tgt := 36) hx hb dX12_leastWidth_10 (by decide) (fun c9 => absurd c9 (by decide)) (fun _ => ?_)
  refine lv_aload_n hx hb dX12_leastWidth_13 rfl (lv_at hl 1 rfl) ?_
  refine lv_iload_n hx hb dX12_leastWidth_14 rfl (lv_at hl 0 rfl) ?_
  refine kt_callV (wc := [(h0, .inr (11, [.int 0, .ref a1, .int 0, .ref a2, .int 0, .int 0, .int 0, .int 0, .int (-1), .ref a3, .ref a4, .int 0, .int 0, .int 0, .ref a5, .ref a6, .int 0, .int (-1), .int 0, .int 0, .ref a7, .ref a8, .ref a9, .ref a10, .int 0, .int 0, .ref a11, .ref a12, .int 0, .int 0, .ref a13, .ref a14, .ref a15, .int 0, .int 0, .ref a16, .ref a17, .ref a18])), (a11, .inl (cy 1, 4096, .inl (cmF (fun _ => 0) 4096)))]) (wr := []) (As := [.int 1]) (rest := []) (c_X12_laysWithin l G cy h0 a1 a2 a3 a4 a5 a6 a7 a8 a9 a10 a11 a12 a13 a14 a15 a16 a17 a18 1 (cmF (fun _ => 0) 4096)) m_X12_laysWithin u_1971 hx hb hml hown hU hl.1 hK hP hD hS hA dX12_leastWidth_15 [0, 1] [] rfl rfl rfl rfl rfl rfl (Nat.le_of_ble_eq_true rfl) (ci := 11) rfl rfl rfl (fun v9 w9 H locs hw hP hD hS => ?_)
  obtain ⟨rfl, rfl⟩ := hw
  have hP : va_P G vwCl [(h0, .inr (11, [.int 0, .ref a1, .int 0, .ref a2, .int 0, .int 0, .int 0, .int 0, .int (-1), .ref a3, .ref a4, .int 0, .int 0, .int 0, .ref a5, .ref a6, .int 0, .int (-1), .int 0, .int 0, .ref a7, .ref a8, .ref a9, .ref a10, .int 0, .int 0, .ref a11, .ref a12, .int 0, .int 0, .ref a13, .ref a14, .ref a15, .int 0, .int 0, .ref a16, .ref a17, .ref a18])), (a11, .inl (cy 1, 4096, .inl (cmF (cmF (fun _ => 0) 4096) 4096)))] H := hP
  have hD : va_D A [(h0, .inr (11, [.int 0, .ref a1, .int 0, .ref a2, .int 0, .int 0, .int 0, .int 0, .int (-1), .ref a3, .ref a4, .int 0, .int 0, .int 0, .ref a5, .ref a6, .int 0, .int (-1), .int 0, .int 0, .ref a7, .ref a8, .ref a9, .ref a10, .int 0, .int 0, .ref a11, .ref a12, .int 0, .int 0, .ref a13, .ref a14, .ref a15, .int 0, .int 0, .ref a16, .ref a17, .ref a18])), (a11, .inl (cy 1, 4096, .inl (cmF (cmF (fun _ => 0) 4096) 4096)))] := hD
  refine W.eq (g2 := F0 m 18 ls []) rfl ?_
  refine W.widen (k := 0) (n := 0) (Nat.le_of_ble_eq_true rfl) (Nat.le_of_ble_eq_true rfl) ?_
  refine lv_aload_n hx hb dX12_leastWidth_18 rfl (lv_at hl 1 rfl) ?_
  refine va_get (D := G) (ci := 11) (v := .ref a11) (C := RX12) (T := TX12) (N := 38) hx hb hU in_X12 hown hK.1 hP 0 rfl rfl 26 (by decide) (hU _ u_1531) (fun _ h9 => h9) rfl dX12_leastWidth_19 ?_
  refine lv_iconst (v := 0) hx hb dX12_leastWidth_22 (by decide) ?_
  refine va_iald hx hb hK.1 hP 1 1 rfl rfl (lx_in (by decide +kernel)) dX12_leastWidth_23 (lx_top (y := (-1)) (cmF_at (lx_in (by decide +kernel))) ?_)
  refine lv_iconst (v := (-1)) hx hb dX12_leastWidth_24 (by decide) ?_
  refine lv_icmp_eq (tgt := 30) hx hb dX12_leastWidth_25 (by decide) (fun _ => ?_) (fun c9 => absurd (by decide) c9)
  refine lv_iinc (v := 2) (lv' := [(1, .int 2), (0, .ref h0)]) hx hb dX12_leastWidth_30 hl (k := 0) rfl (by decide) (by decide) rfl (fun ls hl => ?_)
  refine lv_goto (tgt := 7) hx hb dX12_leastWidth_33 (by decide) ?_
  refine lv_iload_n hx hb dX12_leastWidth_7 rfl (lv_at hl 0 rfl) ?_
  refine lv_bipush (v := 6) hx hb dX12_leastWidth_8 (by decide) ?_
  refine lv_icmp_gt (tgt := 36) hx hb dX12_leastWidth_10 (by decide) (fun c9 => absurd c9 (by decide)) (fun _ => ?_)
  refine lv_aload_n hx hb dX12_leastWidth_13 rfl (lv_at hl 1 rfl) ?_
  refine lv_iload_n hx hb dX12_leastWidth_14 rfl (lv_at hl 0 rfl) ?_
  refine kt_callV (wc := [(h0, .inr (11, [.int 0, .ref a1, .int 0, .ref a2, .int 0, .int 0, .int 0, .int 0, .int (-1), .ref a3, .ref a4, .int 0, .int 0, .int 0, .ref a5, .ref a6, .int 0, .int (-1), .int 0, .int 0, .ref a7, .ref a8, .ref a9, .ref a10, .int 0, .int 0, .ref a11, .ref a12, .int 0, .int 0, .ref a13, .ref a14, .ref a15, .int 0, .int 0, .ref a16, .ref a17, .ref a18])), (a11, .inl (cy 1, 4096, .inl (cmF (cmF (fun _ => 0) 4096) 4096)))]) (wr := []) (As := [.int 2]) (rest := []) (c_X12_laysWithin l G cy h0 a1 a2 a3 a4 a5 a6 a7 a8 a9 a10 a11 a12 a13 a14 a15 a16 a17 a18 2 (cmF (cmF (fun _ => 0) 4096) 4096)) m_X12_laysWithin u_1971 hx hb hml hown hU hl.1 hK hP hD hS hA dX12_leastWidth_15 [0, 1] [] rfl rfl rfl rfl rfl rfl (Nat.le_of_ble_eq_true rfl) (ci := 11) rfl rfl rfl (fun v9 w9 H locs hw hP hD hS => ?_)
  obtain ⟨rfl, rfl⟩ := hw
  have hP : va_P G vwCl [(h0, .inr (11, [.int 0, .ref a1, .int 0, .ref a2, .int 0, .int 0, .int 0, .int 0, .int (-1), .ref a3, .ref a4, .int 0, .int 0, .int 0, .ref a5, .ref a6, .int 0, .int (-1), .int 0, .int 0, .ref a7, .ref a8, .ref a9, .ref a10, .int 0, .int 0, .ref a11, .ref a12, .int 0, .int 0, .ref a13, .ref a14, .ref a15, .int 0, .int 0, .ref a16, .ref a17, .ref a18])), (a11, .inl (cy 1, 4096, .inl (cmF (cmF (cmF (fun _ => 0) 4096) 4096) 4096)))] H := hP
  have hD : va_D A [(h0, .inr (11, [.int 0, .ref a1, .int 0, .ref a2, .int 0, .int 0, .int 0, .int 0, .int (-1), .ref a3, .ref a4, .int 0, .int 0, .int 0, .ref a5, .ref a6, .int 0, .int (-1), .int 0, .int 0, .ref a7, .ref a8, .ref a9, .ref a10, .int 0, .int 0, .ref a11, .ref a12, .int 0, .int 0, .ref a13, .ref a14, .ref a15, .int 0, .int 0, .ref a16, .ref a17, .ref a18])), (a11, .inl (cy 1, 4096, .inl (cmF (cmF (cmF (fun _ => 0) 4096) 4096) 4096)))] := hD
  refine W.eq (g2 := F0 m 18 ls []) rfl ?_
  refine W.widen (k := 0) (n := 0) (Nat.le_of_ble_eq_true rfl) (Nat.le_of_ble_eq_true rfl) ?_
  refine lv_aload_n hx hb dX12_leastWidth_18 rfl (lv_at hl 1 rfl) ?_
  refine va_get (D := G) (ci := 11) (v := .ref a11) (C := RX12) (T := TX12) (N := 38) hx hb hU in_X12 hown hK.1 hP 0 rfl rfl 26 (by decide) (hU _ u_1531) (fun _ h9 => h9) rfl dX12_leastWidth_19 ?_
  refine lv_iconst (v := 0) hx hb dX12_leastWidth_22 (by decide) ?_
  refine va_iald hx hb hK.1 hP 1 1 rfl rfl (lx_in (by decide +kernel)) dX12_leastWidth_23 (lx_top (y := (-1)) (cmF_at (lx_in (by decide +kernel))) ?_)
  refine lv_iconst (v := (-1)) hx hb dX12_leastWidth_24 (by decide) ?_
  refine lv_icmp_eq (tgt := 30) hx hb dX12_leastWidth_25 (by decide) (fun _ => ?_) (fun c9 => absurd (by decide) c9)
  refine lv_iinc (v := 3) (lv' := [(1, .int 3), (0, .ref h0)]) hx hb dX12_leastWidth_30 hl (k := 0) rfl (by decide) (by decide) rfl (fun ls hl => ?_)
  refine lv_goto (tgt := 7) hx hb dX12_leastWidth_33 (by decide) ?_
  refine lv_iload_n hx hb dX12_leastWidth_7 rfl (lv_at hl 0 rfl) ?_
  refine lv_bipush (v := 6) hx hb dX12_leastWidth_8 (by decide) ?_
  refine lv_icmp_gt (tgt := 36) hx hb dX12_leastWidth_10 (by decide) (fun c9 => absurd c9 (by decide)) (fun _ => ?_)
  refine lv_aload_n hx hb dX12_leastWidth_13 rfl (lv_at hl 1 rfl) ?_
  refine lv_iload_n hx hb dX12_leastWidth_14 rfl (lv_at hl 0 rfl) ?_
  refine kt_callV (wc := [(h0, .inr (11, [.int 0, .ref a1, .int 0, .ref a2, .int 0, .int 0, .int 0, .int 0, .int (-1), .ref a3, .ref a4, .int 0, .int 0, .int 0, .ref a5, .ref a6, .int 0, .int (-1), .int 0, .int 0, .ref a7, .ref a8, .ref a9, .ref a10, .int 0, .int 0, .ref a11, .ref a12, .int 0, .int 0, .ref a13, .ref a14, .ref a15, .int 0, .int 0, .ref a16, .ref a17, .ref a18])), (a11, .inl (cy 1, 4096, .inl (cmF (cmF (cmF (fun _ => 0) 4096) 4096) 4096)))]) (wr := []) (As := [.int 3]) (rest := []) (c_X12_laysWithin l G cy h0 a1 a2 a3 a4 a5 a6 a7 a8 a9 a10 a11 a12 a13 a14 a15 a16 a17 a18 3 (cmF (cmF (cmF (fun _ => 0) 4096) 4096) 4096)) m_X12_laysWithin u_1971 hx hb hml hown hU hl.1 hK hP hD hS hA dX12_leastWidth_15 [0, 1] [] rfl rfl rfl rfl rfl rfl (Nat.le_of_ble_eq_true rfl) (ci := 11) rfl rfl rfl (fun v9 w9 H locs hw hP hD hS => ?_)
  obtain ⟨rfl, rfl⟩ := hw
  have hP : va_P G vwCl [(h0, .inr (11, [.int 0, .ref a1, .int 0, .ref a2, .int 0, .int 0, .int 0, .int 0, .int (-1), .ref a3, .ref a4, .int 0, .int 0, .int 0, .ref a5, .ref a6, .int 0, .int (-1), .int 0, .int 0, .ref a7, .ref a8, .ref a9, .ref a10, .int 0, .int 0, .ref a11, .ref a12, .int 0, .int 0, .ref a13, .ref a14, .ref a15, .int 0, .int 0, .ref a16, .ref a17, .ref a18])), (a11, .inl (cy 1, 4096, .inl (cmF (cmF (cmF (cmF (fun _ => 0) 4096) 4096) 4096) 4096)))] H := hP
  have hD : va_D A [(h0, .inr (11, [.int 0, .ref a1, .int 0, .ref a2, .int 0, .int 0, .int 0, .int 0, .int (-1), .ref a3, .ref a4, .int 0, .int 0, .int 0, .ref a5, .ref a6, .int 0, .int (-1), .int 0, .int 0, .ref a7, .ref a8, .ref a9, .ref a10, .int 0, .int 0, .ref a11, .ref a12, .int 0, .int 0, .ref a13, .ref a14, .ref a15, .int 0, .int 0, .ref a16, .ref a17, .ref a18])), (a11, .inl (cy 1, 4096, .inl (cmF (cmF (cmF (cmF (fun _ => 0) 4096) 4096) 4096) 4096)))] := hD
  refine W.eq (g2 := F0 m 18 ls []) rfl ?_
  refine W.widen (k := 0) (n := 0) (Nat.le_of_ble_eq_true rfl) (Nat.le_of_ble_eq_true rfl) ?_
  refine lv_aload_n hx hb dX12_leastWidth_18 rfl (lv_at hl 1 rfl) ?_
  refine va_get (D := G) (ci := 11) (v := .ref a11) (C := RX12) (T := TX12) (N := 38) hx hb hU in_X12 hown hK.1 hP 0 rfl rfl 26 (by decide) (hU _ u_1531) (fun _ h9 => h9) rfl dX12_leastWidth_19 ?_
  refine lv_iconst (v := 0) hx hb dX12_leastWidth_22 (by decide) ?_
  refine va_iald hx hb hK.1 hP 1 1 rfl rfl (lx_in (by decide +kernel)) dX12_leastWidth_23 (lx_top (y := (-1)) (cmF_at (lx_in (by decide +kernel))) ?_)
  refine lv_iconst (v := (-1)) hx hb dX12_leastWidth_24 (by decide) ?_
  refine lv_icmp_eq (tgt := 30) hx hb dX12_leastWidth_25 (by decide) (fun _ => ?_) (fun c9 => absurd (by decide) c9)
  refine lv_iinc (v := 4) (lv' := [(1, .int 4), (0, .ref h0)]) hx hb dX12_leastWidth_30 hl (k := 0) rfl (by decide) (by decide) rfl (fun ls hl => ?_)
  refine lv_goto (tgt := 7) hx hb dX12_leastWidth_33 (by decide) ?_
  refine lv_iload_n hx hb dX12_leastWidth_7 rfl (lv_at hl 0 rfl) ?_
  refine lv_bipush (v := 6) hx hb dX12_leastWidth_8 (by decide) ?_
  refine lv_icmp_gt (tgt := 36) hx hb dX12_leastWidth_10 (by decide) (fun c9 => absurd c9 (by decide)) (fun _ => ?_)
  refine lv_aload_n hx hb dX12_leastWidth_13 rfl (lv_at hl 1 rfl) ?_
  refine lv_iload_n hx hb dX12_leastWidth_14 rfl (lv_at hl 0 rfl) ?_
  refine kt_callV (wc := [(h0, .inr (11, [.int 0, .ref a1, .int 0, .ref a2, .int 0, .int 0, .int 0, .int 0, .int (-1), .ref a3, .ref a4, .int 0, .int 0, .int 0, .ref a5, .ref a6, .int 0, .int (-1), .int 0, .int 0, .ref a7, .ref a8, .ref a9, .ref a10, .int 0, .int 0, .ref a11, .ref a12, .int 0, .int 0, .ref a13, .ref a14, .ref a15, .int 0, .int 0, .ref a16, .ref a17, .ref a18])), (a11, .inl (cy 1, 4096, .inl (cmF (cmF (cmF (cmF (fun _ => 0) 4096) 4096) 4096) 4096)))]) (wr := []) (As := [.int 4]) (rest := []) (c_X12_laysWithin l G cy h0 a1 a2 a3 a4 a5 a6 a7 a8 a9 a10 a11 a12 a13 a14 a15 a16 a17 a18 4 (cmF (cmF (cmF (cmF (fun _ => 0) 4096) 4096) 4096) 4096)) m_X12_laysWithin u_1971 hx hb hml hown hU hl.1 hK hP hD hS hA dX12_leastWidth_15 [0, 1] [] rfl rfl rfl rfl rfl rfl (Nat.le_of_ble_eq_true rfl) (ci := 11) rfl rfl rfl (fun v9 w9 H locs hw hP hD hS => ?_)
  obtain ⟨rfl, rfl⟩ := hw
  have hP : va_P G vwCl [(h0, .inr (11, [.int 0, .ref a1, .int 0, .ref a2, .int 0, .int 0, .int 0, .int 0, .int (-1), .ref a3, .ref a4, .int 0, .int 0, .int 0, .ref a5, .ref a6, .int 0, .int (-1), .int 0, .int 0, .ref a7, .ref a8, .ref a9, .ref a10, .int 0, .int 0, .ref a11, .ref a12, .int 0, .int 0, .ref a13, .ref a14, .ref a15, .int 0, .int 0, .ref a16, .ref a17, .ref a18])), (a11, .inl (cy 1, 4096, .inl (cmF (cmF (cmF (cmF (cmF (fun _ => 0) 4096) 4096) 4096) 4096) 4096)))] H := hP
  have hD : va_D A [(h0, .inr (11, [.int 0, .ref a1, .int 0, .ref a2, .int 0, .int 0, .int 0, .int 0, .int (-1), .ref a3, .ref a4, .int 0, .int 0, .int 0, .ref a5, .ref a6, .int 0, .int (-1), .int 0, .int 0, .ref a7, .ref a8, .ref a9, .ref a10, .int 0, .int 0, .ref a11, .ref a12, .int 0, .int 0, .ref a13, .ref a14, .ref a15, .int 0, .int 0, .ref a16, .ref a17, .ref a18])), (a11, .inl (cy 1, 4096, .inl (cmF (cmF (cmF (cmF (cmF (fun _ => 0) 4096) 4096) 4096) 4096) 4096)))] := hD
  refine W.eq (g2 := F0 m 18 ls []) rfl ?_
  refine W.widen (k := 0) (n := 0) (Nat.le_of_ble_eq_true rfl) (Nat.le_of_ble_eq_true rfl) ?_
  refine lv_aload_n hx hb dX12_leastWidth_18 rfl (lv_at hl 1 rfl) ?_
  refine va_get (D := G) (ci := 11) (v := .ref a11) (C := RX12) (T := TX12) (N := 38) hx hb hU in_X12 hown hK.1 hP 0 rfl rfl 26 (by decide) (hU _ u_1531) (fun _ h9 => h9) rfl dX12_leastWidth_19 ?_
  refine lv_iconst (v := 0) hx hb dX12_leastWidth_22 (by decide) ?_
  refine va_iald hx hb hK.1 hP 1 1 rfl rfl (lx_in (by decide +kernel)) dX12_leastWidth_23 (lx_top (y := (-1)) (cmF_at (lx_in (by decide +kernel))) ?_)
  refine lv_iconst (v := (-1)) hx hb dX12_leastWidth_24 (by decide) ?_
  refine lv_icmp_eq (tgt := 30) hx hb dX12_leastWidth_25 (by decide) (fun _ => ?_) (fun c9 => absurd (by decide) c9)
  refine lv_iinc (v := 5) (lv' := [(1, .int 5), (0, .ref h0)]) hx hb dX12_leastWidth_30 hl (k := 0) rfl (by decide) (by decide) rfl (fun ls hl => ?_)
  refine lv_goto (tgt := 7) hx hb dX12_leastWidth_33 (by decide) ?_
  refine lv_iload_n hx hb dX12_leastWidth_7 rfl (lv_at hl 0 rfl) ?_
  refine lv_bipush (v := 6) hx hb dX12_leastWidth_8 (by decide) ?_
  refine lv_icmp_gt (tgt := 36) hx hb dX12_leastWidth_10 (by decide) (fun c9 => absurd c9 (by decide)) (fun _ => ?_)
  refine lv_aload_n hx hb dX12_leastWidth_13 rfl (lv_at hl 1 rfl) ?_
  refine lv_iload_n hx hb dX12_leastWidth_14 rfl (lv_at hl 0 rfl) ?_
  refine kt_callV (wc := [(h0, .inr (11, [.int 0, .ref a1, .int 0, .ref a2, .int 0, .int 0, .int 0, .int 0, .int (-1), .ref a3, .ref a4, .int 0, .int 0, .int 0, .ref a5, .ref a6, .int 0, .int (-1), .int 0, .int 0, .ref a7, .ref a8, .ref a9, .ref a10, .int 0, .int 0, .ref a11, .ref a12, .int 0, .int 0, .ref a13, .ref a14, .ref a15, .int 0, .int 0, .ref a16, .ref a17, .ref a18])), (a11, .inl (cy 1, 4096, .inl (cmF (cmF (cmF (cmF (cmF (fun _ => 0) 4096) 4096) 4096) 4096) 4096)))]) (wr := []) (As := [.int 5]) (rest := []) (c_X12_laysWithin l G cy h0 a1 a2 a3 a4 a5 a6 a7 a8 a9 a10 a11 a12 a13 a14 a15 a16 a17 a18 5 (cmF (cmF (cmF (cmF (cmF (fun _ => 0) 4096) 4096) 4096) 4096) 4096)) m_X12_laysWithin u_1971 hx hb hml hown hU hl.1 hK hP hD hS hA dX12_leastWidth_15 [0, 1] [] rfl rfl rfl rfl rfl rfl (Nat.le_of_ble_eq_true rfl) (ci := 11) rfl rfl rfl (fun v9 w9 H locs hw hP hD hS => ?_)
  obtain ⟨rfl, rfl⟩ := hw
  have hP : va_P G vwCl [(h0, .inr (11, [.int 0, .ref a1, .int 0, .ref a2, .int 0, .int 0, .int 0, .int 0, .int (-1), .ref a3, .ref a4, .int 0, .int 0, .int 0, .ref a5, .ref a6, .int 0, .int (-1), .int 0, .int 0, .ref a7, .ref a8, .ref a9, .ref a10, .int 0, .int 0, .ref a11, .ref a12, .int 0, .int 0, .ref a13, .ref a14, .ref a15, .int 0, .int 0, .ref a16, .ref a17, .ref a18])), (a11, .inl (cy 1, 4096, .inl (cmF (cmF (cmF (cmF (cmF (cmF (fun _ => 0) 4096) 4096) 4096) 4096) 4096) 4096)))] H := hP
  have hD : va_D A [(h0, .inr (11, [.int 0, .ref a1, .int 0, .ref a2, .int 0, .int 0, .int 0, .int 0, .int (-1), .ref a3, .ref a4, .int 0, .int 0, .int 0, .ref a5, .ref a6, .int 0, .int (-1), .int 0, .int 0, .ref a7, .ref a8, .ref a9, .ref a10, .int 0, .int 0, .ref a11, .ref a12, .int 0, .int 0, .ref a13, .ref a14, .ref a15, .int 0, .int 0, .ref a16, .ref a17, .ref a18])), (a11, .inl (cy 1, 4096, .inl (cmF (cmF (cmF (cmF (cmF (cmF (fun _ => 0) 4096) 4096) 4096) 4096) 4096) 4096)))] := hD
  refine W.eq (g2 := F0 m 18 ls []) rfl ?_
  refine W.widen (k := 0) (n := 0) (Nat.le_of_ble_eq_true rfl) (Nat.le_of_ble_eq_true rfl) ?_
  refine lv_aload_n hx hb dX12_leastWidth_18 rfl (lv_at hl 1 rfl) ?_
  refine va_get (D := G) (ci := 11) (v := .ref a11) (C := RX12) (T := TX12) (N := 38) hx hb hU in_X12 hown hK.1 hP 0 rfl rfl 26 (by decide) (hU _ u_1531) (fun _ h9 => h9) rfl dX12_leastWidth_19 ?_
  refine lv_iconst (v := 0) hx hb dX12_leastWidth_22 (by decide) ?_
  refine va_iald hx hb hK.1 hP 1 1 rfl rfl (lx_in (by decide +kernel)) dX12_leastWidth_23 (lx_top (y := (-1)) (cmF_at (lx_in (by decide +kernel))) ?_)
  refine lv_iconst (v := (-1)) hx hb dX12_leastWidth_24 (by decide) ?_
  refine lv_icmp_eq (tgt := 30) hx hb dX12_leastWidth_25 (by decide) (fun _ => ?_) (fun c9 => absurd (by decide) c9)
  refine lv_iinc (v := 6) (lv' := [(1, .int 6), (0, .ref h0)]) hx hb dX12_leastWidth_30 hl (k := 0) rfl (by decide) (by decide) rfl (fun ls hl => ?_)
  refine lv_goto (tgt := 7) hx hb dX12_leastWidth_33 (by decide) ?_
  refine lv_iload_n hx hb dX12_leastWidth_7 rfl (lv_at hl 0 rfl) ?_
  refine lv_bipush (v := 6) hx hb dX12_leastWidth_8 (by decide) ?_
  refine lv_icmp_gt (tgt := 36) hx hb dX12_leastWidth_10 (by decide) (fun c9 => absurd c9 (by decide)) (fun _ => ?_)
  refine lv_aload_n hx hb dX12_leastWidth_13 rfl (lv_at hl 1 rfl) ?_
  refine lv_iload_n hx hb dX12_leastWidth_14 rfl (lv_at hl 0 rfl) ?_
  refine kt_callV (wc := [(h0, .inr (11, [.int 0, .ref a1, .int 0, .ref a2, .int 0, .int 0, .int 0, .int 0, .int (-1), .ref a3, .ref a4, .int 0, .int 0, .int 0, .ref a5, .ref a6, .int 0, .int (-1), .int 0, .int 0, .ref a7, .ref a8, .ref a9, .ref a10, .int 0, .int 0, .ref a11, .ref a12, .int 0, .int 0, .ref a13, .ref a14, .ref a15, .int 0, .int 0, .ref a16, .ref a17, .ref a18])), (a11, .inl (cy 1, 4096, .inl (cmF (cmF (cmF (cmF (cmF (cmF (fun _ => 0) 4096) 4096) 4096) 4096) 4096) 4096)))]) (wr := []) (As := [.int 6]) (rest := []) (c_X12_laysWithin l G cy h0 a1 a2 a3 a4 a5 a6 a7 a8 a9 a10 a11 a12 a13 a14 a15 a16 a17 a18 6 (cmF (cmF (cmF (cmF (cmF (cmF (fun _ => 0) 4096) 4096) 4096) 4096) 4096) 4096)) m_X12_laysWithin u_1971 hx hb hml hown hU hl.1 hK hP hD hS hA dX12_leastWidth_15 [0, 1] [] rfl rfl rfl rfl rfl rfl (Nat.le_of_ble_eq_true rfl) (ci := 11) rfl rfl rfl (fun v9 w9 H locs hw hP hD hS => ?_)
  obtain ⟨rfl, rfl⟩ := hw
  have hP : va_P G vwCl [(h0, .inr (11, [.int 0, .ref a1, .int 0, .ref a2, .int 0, .int 0, .int 0, .int 0, .int (-1), .ref a3, .ref a4, .int 0, .int 0, .int 0, .ref a5, .ref a6, .int 0, .int (-1), .int 0, .int 0, .ref a7, .ref a8, .ref a9, .ref a10, .int 0, .int 0, .ref a11, .ref a12, .int 0, .int 0, .ref a13, .ref a14, .ref a15, .int 0, .int 0, .ref a16, .ref a17, .ref a18])), (a11, .inl (cy 1, 4096, .inl (cmF (cmF (cmF (cmF (cmF (cmF (cmF (fun _ => 0) 4096) 4096) 4096) 4096) 4096) 4096) 4096)))] H := hP
  have hD : va_D A [(h0, .inr (11, [.int 0, .ref a1, .int 0, .ref a2, .int 0, .int 0, .int 0, .int 0, .int (-1), .ref a3, .ref a4, .int 0, .int 0, .int 0, .ref a5, .ref a6, .int 0, .int (-1), .int 0, .int 0, .ref a7, .ref a8, .ref a9, .ref a10, .int 0, .int 0, .ref a11, .ref a12, .int 0, .int 0, .ref a13, .ref a14, .ref a15, .int 0, .int 0, .ref a16, .ref a17, .ref a18])), (a11, .inl (cy 1, 4096, .inl (cmF (cmF (cmF (cmF (cmF (cmF (cmF (fun _ => 0) 4096) 4096) 4096) 4096) 4096) 4096) 4096)))] := hD
  refine W.eq (g2 := F0 m 18 ls []) rfl ?_
  refine W.widen (k := 0) (n := 0) (Nat.le_of_ble_eq_true rfl) (Nat.le_of_ble_eq_true rfl) ?_
  refine lv_aload_n hx hb dX12_leastWidth_18 rfl (lv_at hl 1 rfl) ?_
  refine va_get (D := G) (ci := 11) (v := .ref a11) (C := RX12) (T := TX12) (N := 38) hx hb hU in_X12 hown hK.1 hP 0 rfl rfl 26 (by decide) (hU _ u_1531) (fun _ h9 => h9) rfl dX12_leastWidth_19 ?_
  refine lv_iconst (v := 0) hx hb dX12_leastWidth_22 (by decide) ?_
  refine va_iald hx hb hK.1 hP 1 1 rfl rfl (lx_in (by decide +kernel)) dX12_leastWidth_23 (lx_top (y := (-1)) (cmF_at (lx_in (by decide +kernel))) ?_)
  refine lv_iconst (v := (-1)) hx hb dX12_leastWidth_24 (by decide) ?_
  refine lv_icmp_eq (tgt := 30) hx hb dX12_leastWidth_25 (by decide) (fun _ => ?_) (fun c9 => absurd (by decide) c9)
  refine lv_iinc (v := 7) (lv' := [(1, .int 7), (0, .ref h0)]) hx hb dX12_leastWidth_30 hl (k := 0) rfl (by decide) (by decide) rfl (fun ls hl => ?_)
  refine lv_goto (tgt := 7) hx hb dX12_leastWidth_33 (by decide) ?_
  refine lv_iload_n hx hb dX12_leastWidth_7 rfl (lv_at hl 0 rfl) ?_
  refine lv_bipush (v := 6) hx hb dX12_leastWidth_8 (by decide) ?_
  refine lv_icmp_gt (tgt := 36) hx hb dX12_leastWidth_10 (by decide) (fun _ => ?_) (fun c9 => absurd (by decide) c9)
  refine lv_iconst (v := (-1)) hx hb dX12_leastWidth_36 (by decide) ?_
  exact kt_iret hx hb hr hlocks hP hD hS dX12_leastWidth_37 [] rfl rfl rfl rfl ⟨rfl, rfl⟩
set_option maxHeartbeats 4000000 in
set_option maxRecDepth 100000 in
theorem c_X12_has (l : Launch) (G : va_G) (cy : Nat → ClassId) (h0 : Nat) (a1 : Nat) (a2 : Nat) (a3 : Nat) (a4 : Nat) (a5 : Nat) (a6 : Nat) (a7 : Nat) (a8 : Nat) (a9 : Nat) (a10 : Nat) (a11 : Nat) (a12 : Nat) (a13 : Nat) (a14 : Nat) (a15 : Nat) (a16 : Nat) (a17 : Nat) (a18 : Nat) (p0 : Int32) (p1 : Int32) (p2 : Int32) : Kt l G cy yX12_has cX12_has 4 (some .boolean) ({ frames := 12, cells := 0, slots := 0, locals := 300 } : Room) [.ref h0, .int p0, .int p1, .int p2] [(h0, .inr (11, [.int 0, .ref a1, .int 0, .ref a2, .int 0, .int 0, .int 0, .int 0, .int (-1), .ref a3, .ref a4, .int 0, .int 0, .int 0, .ref a5, .ref a6, .int 0, .int (-1), .int 0, .int 0, .ref a7, .ref a8, .ref a9, .ref a10, .int 0, .int 0, .ref a11, .ref a12, .int 0, .int 0, .ref a13, .ref a14, .ref a15, .int 0, .int 0, .ref a16, .ref a17, .ref a18])), (a11, .inl (cy 1, 4096, .inl (fun _ => 0)))] (fun (v : Option Value) (w1 : va_W) => ∃ (t : Int32), ∃ (r : Int32), v = some (.int r) ∧ w1 = [(h0, .inr (11, [.int t, .ref a1, .int 0, .ref a2, .int 0, .int 0, .int 0, .int 0, .int (-1), .ref a3, .ref a4, .int 0, .int 0, .int 0, .ref a5, .ref a6, .int 0, .int (-1), .int 0, .int 0, .ref a7, .ref a8, .ref a9, .ref a10, .int 0, .int 0, .ref a11, .ref a12, .int 0, .int 0, .ref a13, .ref a14, .ref a15, .int 0, .int 0, .ref a16, .ref a17, .ref a18]))] ∧ ((t = 1 ∧ ¬ (okWidth p0 ∧ okSets p1 p2)) ∨ (t = 0 ∧ (okWidth p0 ∧ okSets p1 p2) ∧ r = 0))) := by
  refine kt_ofW (by decide) (Nat.le_of_ble_eq_true rfl) ?_
  intro p e s m below meth c A ls hx hb hr hU hown hlocks hml hin hP hK hD hA hS hl
  have hown : s.vm.findClass RX12 = some m.cls := hown
  have hl : lv_has ls 4 [(0, .ref h0), (1, .int p0), (2, .int p1), (3, .int p2)] := hl
  refine lv_aload_n hx hb dX12_has_0 rfl (lv_at hl 0 rfl) ?_
  refine lv_iconst (v := 0) hx hb dX12_has_1 (by decide) ?_
  refine va_put (D := G) (ci := 11) (v := .int 0) (ty := .int) (C := RX12) (T := TX12) (N := 38) hx hb hU in_X12 tyX12 tyX12_ok nmX12 hown hK.1 hP hD hS 0 rfl rfl 0 (by decide) (hU _ u_1505) (fun _ h9 => h9) rfl (by decide +kernel) rfl rfl (Nat.le_of_ble_eq_true rfl) dX12_has_2 (fun H locs hP hD hS => ?_)
  have hP : va_P G vwCl [(h0, .inr (11, [.int 0, .ref a1, .int 0, .ref a2, .int 0, .int 0, .int 0, .int 0, .int (-1), .ref a3, .ref a4, .int 0, .int 0, .int 0, .ref a5, .ref a6, .int 0, .int (-1), .int 0, .int 0, .ref a7, .ref a8, .ref a9, .ref a10, .int 0, .int 0, .ref a11, .ref a12, .int 0, .int 0, .ref a13, .ref a14, .ref a15, .int 0, .int 0, .ref a16, .ref a17, .ref a18])), (a11, .inl (cy 1, 4096, .inl (fun _ => 0)))] H := hP
  have hD : va_D A [(h0, .inr (11, [.int 0, .ref a1, .int 0, .ref a2, .int 0, .int 0, .int 0, .int 0, .int (-1), .ref a3, .ref a4, .int 0, .int 0, .int 0, .ref a5, .ref a6, .int 0, .int (-1), .int 0, .int 0, .ref a7, .ref a8, .ref a9, .ref a10, .int 0, .int 0, .ref a11, .ref a12, .int 0, .int 0, .ref a13, .ref a14, .ref a15, .int 0, .int 0, .ref a16, .ref a17, .ref a18])), (a11, .inl (cy 1, 4096, .inl (fun _ => 0)))] := hD
  refine lv_aload_n hx hb dX12_has_5 rfl (lv_at hl 0 rfl) ?_
  refine lv_iload_n hx hb dX12_has_6 rfl (lv_at hl 1 rfl) ?_
  refine lv_iconst (v := 0) hx hb dX12_has_7 (by decide) ?_
  refine lv_bipush (v := 6) hx hb dX12_has_8 (by decide) ?_
  refine kt_callS (wc := []) (wr := [(h0, .inr (11, [.int 0, .ref a1, .int 0, .ref a2, .int 0, .int 0, .int 0, .int 0, .int (-1), .ref a3, .ref a4, .int 0, .int 0, .int 0, .ref a5, .ref a6, .int 0, .int (-1), .int 0, .int 0, .ref a7, .ref a8, .ref a9, .ref a10, .int 0, .int 0, .ref a11, .ref a12, .int 0, .int 0, .ref a13, .ref a14, .ref a15, .int 0, .int 0, .ref a16, .ref a17, .ref a18])), (a11, .inl (cy 1, 4096, .inl (fun _ => 0)))]) (As := [.int p0, .int 0, .int 6]) (rest := [.ref h0]) (c_X12_in l G cy p0 0 6) m_X12_in u_1732 hx hb hml hown hU hl.1 hK hP hD hS hA dX12_has_10 [] [0, 1] rfl rfl rfl rfl rfl rfl (Nat.le_of_ble_eq_true rfl) (fun v9 w9 H locs hw hP hD hS => ?_)
  obtain ⟨x_1, rfl, rfl, hp_2⟩ := hw
  rcases hp_2 with ⟨rfl, hp_2b⟩ | ⟨rfl, hp_2b⟩
  · have hP : va_P G vwCl [(h0, .inr (11, [.int 0, .ref a1, .int 0, .ref a2, .int 0, .int 0, .int 0, .int 0, .int (-1), .ref a3, .ref a4, .int 0, .int 0, .int 0, .ref a5, .ref a6, .int 0, .int (-1), .int 0, .int 0, .ref a7, .ref a8, .ref a9, .ref a10, .int 0, .int 0, .ref a11, .ref a12, .int 0, .int 0, .ref a13, .ref a14, .ref a15, .int 0, .int 0, .ref a16, .ref a17, .ref a18])), (a11, .inl (cy 1, 4096, .inl (fun _ => 0)))] H := hP
    have hD : va_D A [(h0, .inr (11, [.int 0, .ref a1, .int 0, .ref a2, .int 0, .int 0, .int 0, .int 0, .int (-1), .ref a3, .ref a4, .int 0, .int 0, .int 0, .ref a5, .ref a6, .int 0, .int (-1), .int 0, .int 0, .ref a7, .ref a8, .ref a9, .ref a10, .int 0, .int 0, .ref a11, .ref a12, .int 0, .int 0, .ref a13, .ref a14, .ref a15, .int 0, .int 0, .ref a16, .ref a17, .ref a18])), (a11, .inl (cy 1, 4096, .inl (fun _ => 0)))] := hD
    refine W.eq (g2 := F0 m 13 ls [.int 1, .ref h0]) rfl ?_
    refine W.widen (k := 0) (n := 0) (Nat.le_of_ble_eq_true rfl) (Nat.le_of_ble_eq_true rfl) ?_
    refine lv_if_eq (tgt := 42) hx hb dX12_has_13 (by decide) (fun c9 => absurd c9 (by decide)) (fun _ => ?_)
    refine lv_iload_n hx hb dX12_has_16 rfl (lv_at hl 2 rfl) ?_
    refine lv_iconst (v := 0) hx hb dX12_has_17 (by decide) ?_
    refine lv_bipush (v := 63) hx hb dX12_has_18 (by decide) ?_
    refine kt_callS (wc := []) (wr := [(h0, .inr (11, [.int 0, .ref a1, .int 0, .ref a2, .int 0, .int 0, .int 0, .int 0, .int (-1), .ref a3, .ref a4, .int 0, .int 0, .int 0, .ref a5, .ref a6, .int 0, .int (-1), .int 0, .int 0, .ref a7, .ref a8, .ref a9, .ref a10, .int 0, .int 0, .ref a11, .ref a12, .int 0, .int 0, .ref a13, .ref a14, .ref a15, .int 0, .int 0, .ref a16, .ref a17, .ref a18])), (a11, .inl (cy 1, 4096, .inl (fun _ => 0)))]) (As := [.int p1, .int 0, .int 63]) (rest := [.ref h0]) (c_X12_in l G cy p1 0 63) m_X12_in u_1732 hx hb hml hown hU hl.1 hK hP hD hS hA dX12_has_20 [] [0, 1] rfl rfl rfl rfl rfl rfl (Nat.le_of_ble_eq_true rfl) (fun v9 w9 H locs hw hP hD hS => ?_)
    obtain ⟨x_3, rfl, rfl, hp_4⟩ := hw
    rcases hp_4 with ⟨rfl, hp_4b⟩ | ⟨rfl, hp_4b⟩
    · have hP : va_P G vwCl [(h0, .inr (11, [.int 0, .ref a1, .int 0, .ref a2, .int 0, .int 0, .int 0, .int 0, .int (-1), .ref a3, .ref a4, .int 0, .int 0, .int 0, .ref a5, .ref a6, .int 0, .int (-1), .int 0, .int 0, .ref a7, .ref a8, .ref a9, .ref a10, .int 0, .int 0, .ref a11, .ref a12, .int 0, .int 0, .ref a13, .ref a14, .ref a15, .int 0, .int 0, .ref a16, .ref a17, .ref a18])), (a11, .inl (cy 1, 4096, .inl (fun _ => 0)))] H := hP
      have hD : va_D A [(h0, .inr (11, [.int 0, .ref a1, .int 0, .ref a2, .int 0, .int 0, .int 0, .int 0, .int (-1), .ref a3, .ref a4, .int 0, .int 0, .int 0, .ref a5, .ref a6, .int 0, .int (-1), .int 0, .int 0, .ref a7, .ref a8, .ref a9, .ref a10, .int 0, .int 0, .ref a11, .ref a12, .int 0, .int 0, .ref a13, .ref a14, .ref a15, .int 0, .int 0, .ref a16, .ref a17, .ref a18])), (a11, .inl (cy 1, 4096, .inl (fun _ => 0)))] := hD
      refine W.eq (g2 := F0 m 23 ls [.int 1, .ref h0]) rfl ?_
      refine W.widen (k := 0) (n := 0) (Nat.le_of_ble_eq_true rfl) (Nat.le_of_ble_eq_true rfl) ?_
      refine lv_if_eq (tgt := 42) hx hb dX12_has_23 (by decide) (fun c9 => absurd c9 (by decide)) (fun _ => ?_)
      refine lv_iload_n hx hb dX12_has_26 rfl (lv_at hl 3 rfl) ?_
      refine lv_iconst (v := 0) hx hb dX12_has_27 (by decide) ?_
      refine lv_bipush (v := 63) hx hb dX12_has_28 (by decide) ?_
      refine kt_callS (wc := []) (wr := [(h0, .inr (11, [.int 0, .ref a1, .int 0, .ref a2, .int 0, .int 0, .int 0, .int 0, .int (-1), .ref a3, .ref a4, .int 0, .int 0, .int 0, .ref a5, .ref a6, .int 0, .int (-1), .int 0, .int 0, .ref a7, .ref a8, .ref a9, .ref a10, .int 0, .int 0, .ref a11, .ref a12, .int 0, .int 0, .ref a13, .ref a14, .ref a15, .int 0, .int 0, .ref a16, .ref a17, .ref a18])), (a11, .inl (cy 1, 4096, .inl (fun _ => 0)))]) (As := [.int p2, .int 0, .int 63]) (rest := [.ref h0]) (c_X12_in l G cy p2 0 63) m_X12_in u_1732 hx hb hml hown hU hl.1 hK hP hD hS hA dX12_has_30 [] [0, 1] rfl rfl rfl rfl rfl rfl (Nat.le_of_ble_eq_true rfl) (fun v9 w9 H locs hw hP hD hS => ?_)
      obtain ⟨x_5, rfl, rfl, hp_6⟩ := hw
      rcases hp_6 with ⟨rfl, hp_6b⟩ | ⟨rfl, hp_6b⟩
      · have hP : va_P G vwCl [(h0, .inr (11, [.int 0, .ref a1, .int 0, .ref a2, .int 0, .int 0, .int 0, .int 0, .int (-1), .ref a3, .ref a4, .int 0, .int 0, .int 0, .ref a5, .ref a6, .int 0, .int (-1), .int 0, .int 0, .ref a7, .ref a8, .ref a9, .ref a10, .int 0, .int 0, .ref a11, .ref a12, .int 0, .int 0, .ref a13, .ref a14, .ref a15, .int 0, .int 0, .ref a16, .ref a17, .ref a18])), (a11, .inl (cy 1, 4096, .inl (fun _ => 0)))] H := hP
        have hD : va_D A [(h0, .inr (11, [.int 0, .ref a1, .int 0, .ref a2, .int 0, .int 0, .int 0, .int 0, .int (-1), .ref a3, .ref a4, .int 0, .int 0, .int 0, .ref a5, .ref a6, .int 0, .int (-1), .int 0, .int 0, .ref a7, .ref a8, .ref a9, .ref a10, .int 0, .int 0, .ref a11, .ref a12, .int 0, .int 0, .ref a13, .ref a14, .ref a15, .int 0, .int 0, .ref a16, .ref a17, .ref a18])), (a11, .inl (cy 1, 4096, .inl (fun _ => 0)))] := hD
        refine W.eq (g2 := F0 m 33 ls [.int 1, .ref h0]) rfl ?_
        refine W.widen (k := 0) (n := 0) (Nat.le_of_ble_eq_true rfl) (Nat.le_of_ble_eq_true rfl) ?_
        refine lv_if_eq (tgt := 42) hx hb dX12_has_33 (by decide) (fun c9 => absurd c9 (by decide)) (fun _ => ?_)
        refine lv_iload_n hx hb dX12_has_36 rfl (lv_at hl 2 rfl) ?_
        refine lv_iload_n hx hb dX12_has_37 rfl (lv_at hl 3 rfl) ?_
        refine lv_iand hx hb dX12_has_38 ?_
        refine lv_if_eq (tgt := 46) hx hb dX12_has_39 (by decide) (fun c_7 => ?_) (fun c_7 => ?_)
        · refine lv_iconst (v := 0) hx hb dX12_has_46 (by decide) ?_
          refine lv_iconst (v := 1) hx hb dX12_has_47 (by decide) ?_
          refine kt_callV (wc := [(h0, .inr (11, [.int 0, .ref a1, .int 0, .ref a2, .int 0, .int 0, .int 0, .int 0, .int (-1), .ref a3, .ref a4, .int 0, .int 0, .int 0, .ref a5, .ref a6, .int 0, .int (-1), .int 0, .int 0, .ref a7, .ref a8, .ref a9, .ref a10, .int 0, .int 0, .ref a11, .ref a12, .int 0, .int 0, .ref a13, .ref a14, .ref a15, .int 0, .int 0, .ref a16, .ref a17, .ref a18]))]) (wr := [(a11, .inl (cy 1, 4096, .inl (fun _ => 0)))]) (As := [.int 0, .int 1]) (rest := []) (c_X12_throwsIf_0 l G cy h0 a1 a2 a3 a4 a5 a6 a7 a8 a9 a10 a11 a12 a13 a14 a15 a16 a17 a18 1) m_X12_throwsIf u_1752 hx hb hml hown hU hl.1 hK hP hD hS hA dX12_has_48 [0] [1] rfl rfl rfl rfl rfl rfl (Nat.le_of_ble_eq_true rfl) (ci := 11) rfl rfl rfl (fun v9 w9 H locs hw hP hD hS => ?_)
          obtain ⟨rfl, rfl⟩ := hw
          have hP : va_P G vwCl [(a11, .inl (cy 1, 4096, .inl (fun _ => 0))), (h0, .inr (11, [.int 0, .ref a1, .int 0, .ref a2, .int 0, .int 0, .int 0, .int 0, .int (-1), .ref a3, .ref a4, .int 0, .int 0, .int 0, .ref a5, .ref a6, .int 0, .int (-1), .int 0, .int 0, .ref a7, .ref a8, .ref a9, .ref a10, .int 0, .int 0, .ref a11, .ref a12, .int 0, .int 0, .ref a13, .ref a14, .ref a15, .int 0, .int 0, .ref a16, .ref a17, .ref a18]))] H := hP
          have hD : va_D A [(a11, .inl (cy 1, 4096, .inl (fun _ => 0))), (h0, .inr (11, [.int 0, .ref a1, .int 0, .ref a2, .int 0, .int 0, .int 0, .int 0, .int (-1), .ref a3, .ref a4, .int 0, .int 0, .int 0, .ref a5, .ref a6, .int 0, .int (-1), .int 0, .int 0, .ref a7, .ref a8, .ref a9, .ref a10, .int 0, .int 0, .ref a11, .ref a12, .int 0, .int 0, .ref a13, .ref a14, .ref a15, .int 0, .int 0, .ref a16, .ref a17, .ref a18]))] := hD
          refine W.eq (g2 := F0 m 51 ls [.int 0]) rfl ?_
          refine W.widen (k := 0) (n := 0) (Nat.le_of_ble_eq_true rfl) (Nat.le_of_ble_eq_true rfl) ?_
          refine lv_if_eq (tgt := 56) hx hb dX12_has_51 (by decide) (fun _ => ?_) (fun c9 => absurd (by decide) c9)
          refine lv_aload_n hx hb dX12_has_56 rfl (lv_at hl 0 rfl) ?_
          refine lv_iload_n hx hb dX12_has_57 rfl (lv_at hl 1 rfl) ?_
          refine kt_callV (wc := [(h0, .inr (11, [.int 0, .ref a1, .int 0, .ref a2, .int 0, .int 0, .int 0, .int 0, .int (-1), .ref a3, .ref a4, .int 0, .int 0, .int 0, .ref a5, .ref a6, .int 0, .int (-1), .int 0, .int 0, .ref a7, .ref a8, .ref a9, .ref a10, .int 0, .int 0, .ref a11, .ref a12, .int 0, .int 0, .ref a13, .ref a14, .ref a15, .int 0, .int 0, .ref a16, .ref a17, .ref a18])), (a11, .inl (cy 1, 4096, .inl (fun _ => 0)))]) (wr := []) (As := [.int p0]) (rest := []) (c_X12_laysWithin l G cy h0 a1 a2 a3 a4 a5 a6 a7 a8 a9 a10 a11 a12 a13 a14 a15 a16 a17 a18 p0 (fun _ => 0)) m_X12_laysWithin u_1971 hx hb hml hown hU hl.1 hK hP hD hS hA dX12_has_58 [1, 0] [] rfl rfl rfl rfl rfl rfl (Nat.le_of_ble_eq_true rfl) (ci := 11) rfl rfl rfl (fun v9 w9 H locs hw hP hD hS => ?_)
          obtain ⟨rfl, rfl⟩ := hw
          have hP : va_P G vwCl [(h0, .inr (11, [.int 0, .ref a1, .int 0, .ref a2, .int 0, .int 0, .int 0, .int 0, .int (-1), .ref a3, .ref a4, .int 0, .int 0, .int 0, .ref a5, .ref a6, .int 0, .int (-1), .int 0, .int 0, .ref a7, .ref a8, .ref a9, .ref a10, .int 0, .int 0, .ref a11, .ref a12, .int 0, .int 0, .ref a13, .ref a14, .ref a15, .int 0, .int 0, .ref a16, .ref a17, .ref a18])), (a11, .inl (cy 1, 4096, .inl (cmF (fun _ => 0) 4096)))] H := hP
          have hD : va_D A [(h0, .inr (11, [.int 0, .ref a1, .int 0, .ref a2, .int 0, .int 0, .int 0, .int 0, .int (-1), .ref a3, .ref a4, .int 0, .int 0, .int 0, .ref a5, .ref a6, .int 0, .int (-1), .int 0, .int 0, .ref a7, .ref a8, .ref a9, .ref a10, .int 0, .int 0, .ref a11, .ref a12, .int 0, .int 0, .ref a13, .ref a14, .ref a15, .int 0, .int 0, .ref a16, .ref a17, .ref a18])), (a11, .inl (cy 1, 4096, .inl (cmF (fun _ => 0) 4096)))] := hD
          refine W.eq (g2 := F0 m 61 ls []) rfl ?_
          refine W.widen (k := 0) (n := 0) (Nat.le_of_ble_eq_true rfl) (Nat.le_of_ble_eq_true rfl) ?_
          refine lv_aload_n hx hb dX12_has_61 rfl (lv_at hl 0 rfl) ?_
          refine va_get (D := G) (ci := 11) (v := .ref a11) (C := RX12) (T := TX12) (N := 38) hx hb hU in_X12 hown hK.1 hP 0 rfl rfl 26 (by decide) (hU _ u_1531) (fun _ h9 => h9) rfl dX12_has_62 ?_
          refine lv_iload_n hx hb dX12_has_65 rfl (lv_at hl 2 rfl) ?_
          refine lv_iload_n hx hb dX12_has_66 rfl (lv_at hl 3 rfl) ?_
          refine lv_bipush (v := 6) hx hb dX12_has_67 (by decide) ?_
          refine lv_ishl hx hb dX12_has_69 ?_
          refine lv_ior hx hb dX12_has_70 ?_
          refine va_iald hx hb hK.1 hP 1 1 rfl rfl (in_code (by assumption) (by assumption)) dX12_has_71 (lx_top (y := (-1)) (cmF_at (in_code (by assumption) (by assumption))) ?_)
          refine lv_iconst (v := (-1)) hx hb dX12_has_72 (by decide) ?_
          refine lv_icmp_eq (tgt := 80) hx hb dX12_has_73 (by decide) (fun _ => ?_) (fun c9 => absurd (by decide) c9)
          refine lv_iconst (v := 0) hx hb dX12_has_80 (by decide) ?_
          exact kt_zret hx hb hr hlocks hP hD hS (by first | rfl | decide | exact rfl) dX12_has_81 [0] rfl rfl rfl rfl ⟨0, 0, rfl, rfl, (Or.inr ⟨rfl, ⟨by unfold okWidth; assumption, (okSets_y (by assumption) (by assumption) (by assumption))⟩, rfl⟩)⟩
        · refine lv_iconst (v := 1) hx hb dX12_has_42 (by decide) ?_
          refine lv_goto (tgt := 47) hx hb dX12_has_43 (by decide) ?_
          refine lv_iconst (v := 1) hx hb dX12_has_47 (by decide) ?_
          refine kt_callV (wc := [(h0, .inr (11, [.int 0, .ref a1, .int 0, .ref a2, .int 0, .int 0, .int 0, .int 0, .int (-1), .ref a3, .ref a4, .int 0, .int 0, .int 0, .ref a5, .ref a6, .int 0, .int (-1), .int 0, .int 0, .ref a7, .ref a8, .ref a9, .ref a10, .int 0, .int 0, .ref a11, .ref a12, .int 0, .int 0, .ref a13, .ref a14, .ref a15, .int 0, .int 0, .ref a16, .ref a17, .ref a18]))]) (wr := [(a11, .inl (cy 1, 4096, .inl (fun _ => 0)))]) (As := [.int 1, .int 1]) (rest := []) (c_X12_throwsIf_1 l G cy h0 a1 a2 a3 a4 a5 a6 a7 a8 a9 a10 a11 a12 a13 a14 a15 a16 a17 a18 1) m_X12_throwsIf u_1752 hx hb hml hown hU hl.1 hK hP hD hS hA dX12_has_48 [0] [1] rfl rfl rfl rfl rfl rfl (Nat.le_of_ble_eq_true rfl) (ci := 11) rfl rfl rfl (fun v9 w9 H locs hw hP hD hS => ?_)
          obtain ⟨rfl, rfl⟩ := hw
          have hP : va_P G vwCl [(a11, .inl (cy 1, 4096, .inl (fun _ => 0))), (h0, .inr (11, [.int 1, .ref a1, .int 0, .ref a2, .int 0, .int 0, .int 0, .int 0, .int (-1), .ref a3, .ref a4, .int 0, .int 0, .int 0, .ref a5, .ref a6, .int 0, .int (-1), .int 0, .int 0, .ref a7, .ref a8, .ref a9, .ref a10, .int 0, .int 0, .ref a11, .ref a12, .int 0, .int 0, .ref a13, .ref a14, .ref a15, .int 0, .int 0, .ref a16, .ref a17, .ref a18]))] H := hP
          have hD : va_D A [(a11, .inl (cy 1, 4096, .inl (fun _ => 0))), (h0, .inr (11, [.int 1, .ref a1, .int 0, .ref a2, .int 0, .int 0, .int 0, .int 0, .int (-1), .ref a3, .ref a4, .int 0, .int 0, .int 0, .ref a5, .ref a6, .int 0, .int (-1), .int 0, .int 0, .ref a7, .ref a8, .ref a9, .ref a10, .int 0, .int 0, .ref a11, .ref a12, .int 0, .int 0, .ref a13, .ref a14, .ref a15, .int 0, .int 0, .ref a16, .ref a17, .ref a18]))] := hD
          refine W.eq (g2 := F0 m 51 ls [.int 1]) rfl ?_
          refine W.widen (k := 0) (n := 0) (Nat.le_of_ble_eq_true rfl) (Nat.le_of_ble_eq_true rfl) ?_
          refine lv_if_eq (tgt := 56) hx hb dX12_has_51 (by decide) (fun c9 => absurd c9 (by decide)) (fun _ => ?_)
          refine lv_iconst (v := 0) hx hb dX12_has_54 (by decide) ?_
          exact kt_zret hx hb hr hlocks hP hD hS (by first | rfl | decide | exact rfl) dX12_has_55 [1] rfl rfl rfl rfl ⟨1, 0, rfl, rfl, (Or.inl ⟨rfl, by first | exact fun q9 => absurd q9.1 (by unfold okWidth; assumption) | exact fun q9 => absurd q9.2 (by first | exact okSets_n1 (by assumption) | exact okSets_n2 (by assumption) | exact okSets_n3 (by assumption))⟩)⟩
      · have hP : va_P G vwCl [(h0, .inr (11, [.int 0, .ref a1, .int 0, .ref a2, .int 0, .int 0, .int 0, .int 0, .int (-1), .ref a3, .ref a4, .int 0, .int 0, .int 0, .ref a5, .ref a6, .int 0, .int (-1), .int 0, .int 0, .ref a7, .ref a8, .ref a9, .ref a10, .int 0, .int 0, .ref a11, .ref a12, .int 0, .int 0, .ref a13, .ref a14, .ref a15, .int 0, .int 0, .ref a16, .ref a17, .ref a18])), (a11, .inl (cy 1, 4096, .inl (fun _ => 0)))] H := hP
        have hD : va_D A [(h0, .inr (11, [.int 0, .ref a1, .int 0, .ref a2, .int 0, .int 0, .int 0, .int 0, .int (-1), .ref a3, .ref a4, .int 0, .int 0, .int 0, .ref a5, .ref a6, .int 0, .int (-1), .int 0, .int 0, .ref a7, .ref a8, .ref a9, .ref a10, .int 0, .int 0, .ref a11, .ref a12, .int 0, .int 0, .ref a13, .ref a14, .ref a15, .int 0, .int 0, .ref a16, .ref a17, .ref a18])), (a11, .inl (cy 1, 4096, .inl (fun _ => 0)))] := hD
        refine W.eq (g2 := F0 m 33 ls [.int 0, .ref h0]) rfl ?_
        refine W.widen (k := 0) (n := 0) (Nat.le_of_ble_eq_true rfl) (Nat.le_of_ble_eq_true rfl) ?_
        refine lv_if_eq (tgt := 42) hx hb dX12_has_33 (by decide) (fun _ => ?_) (fun c9 => absurd (by decide) c9)
        refine lv_iconst (v := 1) hx hb dX12_has_42 (by decide) ?_
        refine lv_goto (tgt := 47) hx hb dX12_has_43 (by decide) ?_
        refine lv_iconst (v := 1) hx hb dX12_has_47 (by decide) ?_
        refine kt_callV (wc := [(h0, .inr (11, [.int 0, .ref a1, .int 0, .ref a2, .int 0, .int 0, .int 0, .int 0, .int (-1), .ref a3, .ref a4, .int 0, .int 0, .int 0, .ref a5, .ref a6, .int 0, .int (-1), .int 0, .int 0, .ref a7, .ref a8, .ref a9, .ref a10, .int 0, .int 0, .ref a11, .ref a12, .int 0, .int 0, .ref a13, .ref a14, .ref a15, .int 0, .int 0, .ref a16, .ref a17, .ref a18]))]) (wr := [(a11, .inl (cy 1, 4096, .inl (fun _ => 0)))]) (As := [.int 1, .int 1]) (rest := []) (c_X12_throwsIf_1 l G cy h0 a1 a2 a3 a4 a5 a6 a7 a8 a9 a10 a11 a12 a13 a14 a15 a16 a17 a18 1) m_X12_throwsIf u_1752 hx hb hml hown hU hl.1 hK hP hD hS hA dX12_has_48 [0] [1] rfl rfl rfl rfl rfl rfl (Nat.le_of_ble_eq_true rfl) (ci := 11) rfl rfl rfl (fun v9 w9 H locs hw hP hD hS => ?_)
        obtain ⟨rfl, rfl⟩ := hw
        have hP : va_P G vwCl [(a11, .inl (cy 1, 4096, .inl (fun _ => 0))), (h0, .inr (11, [.int 1, .ref a1, .int 0, .ref a2, .int 0, .int 0, .int 0, .int 0, .int (-1), .ref a3, .ref a4, .int 0, .int 0, .int 0, .ref a5, .ref a6, .int 0, .int (-1), .int 0, .int 0, .ref a7, .ref a8, .ref a9, .ref a10, .int 0, .int 0, .ref a11, .ref a12, .int 0, .int 0, .ref a13, .ref a14, .ref a15, .int 0, .int 0, .ref a16, .ref a17, .ref a18]))] H := hP
        have hD : va_D A [(a11, .inl (cy 1, 4096, .inl (fun _ => 0))), (h0, .inr (11, [.int 1, .ref a1, .int 0, .ref a2, .int 0, .int 0, .int 0, .int 0, .int (-1), .ref a3, .ref a4, .int 0, .int 0, .int 0, .ref a5, .ref a6, .int 0, .int (-1), .int 0, .int 0, .ref a7, .ref a8, .ref a9, .ref a10, .int 0, .int 0, .ref a11, .ref a12, .int 0, .int 0, .ref a13, .ref a14, .ref a15, .int 0, .int 0, .ref a16, .ref a17, .ref a18]))] := hD
        refine W.eq (g2 := F0 m 51 ls [.int 1]) rfl ?_
        refine W.widen (k := 0) (n := 0) (Nat.le_of_ble_eq_true rfl) (Nat.le_of_ble_eq_true rfl) ?_
        refine lv_if_eq (tgt := 56) hx hb dX12_has_51 (by decide) (fun c9 => absurd c9 (by decide)) (fun _ => ?_)
        refine lv_iconst (v := 0) hx hb dX12_has_54 (by decide) ?_
        exact kt_zret hx hb hr hlocks hP hD hS (by first | rfl | decide | exact rfl) dX12_has_55 [1] rfl rfl rfl rfl ⟨1, 0, rfl, rfl, (Or.inl ⟨rfl, by first | exact fun q9 => absurd q9.1 (by unfold okWidth; assumption) | exact fun q9 => absurd q9.2 (by first | exact okSets_n1 (by assumption) | exact okSets_n2 (by assumption) | exact okSets_n3 (by assumption))⟩)⟩
    · have hP : va_P G vwCl [(h0, .inr (11, [.int 0, .ref a1, .int 0, .ref a2, .int 0, .int 0, .int 0, .int 0, .int (-1), .ref a3, .ref a4, .int 0, .int 0, .int 0, .ref a5, .ref a6, .int 0, .int (-1), .int 0, .int 0, .ref a7, .ref a8, .ref a9, .ref a10, .int 0, .int 0, .ref a11, .ref a12, .int 0, .int 0, .ref a13, .ref a14, .ref a15, .int 0, .int 0, .ref a16, .ref a17, .ref a18])), (a11, .inl (cy 1, 4096, .inl (fun _ => 0)))] H := hP
      have hD : va_D A [(h0, .inr (11, [.int 0, .ref a1, .int 0, .ref a2, .int 0, .int 0, .int 0, .int 0, .int (-1), .ref a3, .ref a4, .int 0, .int 0, .int 0, .ref a5, .ref a6, .int 0, .int (-1), .int 0, .int 0, .ref a7, .ref a8, .ref a9, .ref a10, .int 0, .int 0, .ref a11, .ref a12, .int 0, .int 0, .ref a13, .ref a14, .ref a15, .int 0, .int 0, .ref a16, .ref a17, .ref a18])), (a11, .inl (cy 1, 4096, .inl (fun _ => 0)))] := hD
      refine W.eq (g2 := F0 m 23 ls [.int 0, .ref h0]) rfl ?_
      refine W.widen (k := 0) (n := 0) (Nat.le_of_ble_eq_true rfl) (Nat.le_of_ble_eq_true rfl) ?_
      refine lv_if_eq (tgt := 42) hx hb dX12_has_23 (by decide) (fun _ => ?_) (fun c9 => absurd (by decide) c9)
      refine lv_iconst (v := 1) hx hb dX12_has_42 (by decide) ?_
      refine lv_goto (tgt := 47) hx hb dX12_has_43 (by decide) ?_
      refine lv_iconst (v := 1) hx hb dX12_has_47 (by decide) ?_
      refine kt_callV (wc := [(h0, .inr (11, [.int 0, .ref a1, .int 0, .ref a2, .int 0, .int 0, .int 0, .int 0, .int (-1), .ref a3, .ref a4, .int 0, .int 0, .int 0, .ref a5, .ref a6, .int 0, .int (-1), .int 0, .int 0, .ref a7, .ref a8, .ref a9, .ref a10, .int 0, .int 0, .ref a11, .ref a12, .int 0, .int 0, .ref a13, .ref a14, .ref a15, .int 0, .int 0, .ref a16, .ref a17, .ref a18]))]) (wr := [(a11, .inl (cy 1, 4096, .inl (fun _ => 0)))]) (As := [.int 1, .int 1]) (rest := []) (c_X12_throwsIf_1 l G cy h0 a1 a2 a3 a4 a5 a6 a7 a8 a9 a10 a11 a12 a13 a14 a15 a16 a17 a18 1) m_X12_throwsIf u_1752 hx hb hml hown hU hl.1 hK hP hD hS hA dX12_has_48 [0] [1] rfl rfl rfl rfl rfl rfl (Nat.le_of_ble_eq_true rfl) (ci := 11) rfl rfl rfl (fun v9 w9 H locs hw hP hD hS => ?_)
      obtain ⟨rfl, rfl⟩ := hw
      have hP : va_P G vwCl [(a11, .inl (cy 1, 4096, .inl (fun _ => 0))), (h0, .inr (11, [.int 1, .ref a1, .int 0, .ref a2, .int 0, .int 0, .int 0, .int 0, .int (-1), .ref a3, .ref a4, .int 0, .int 0, .int 0, .ref a5, .ref a6, .int 0, .int (-1), .int 0, .int 0, .ref a7, .ref a8, .ref a9, .ref a10, .int 0, .int 0, .ref a11, .ref a12, .int 0, .int 0, .ref a13, .ref a14, .ref a15, .int 0, .int 0, .ref a16, .ref a17, .ref a18]))] H := hP
      have hD : va_D A [(a11, .inl (cy 1, 4096, .inl (fun _ => 0))), (h0, .inr (11, [.int 1, .ref a1, .int 0, .ref a2, .int 0, .int 0, .int 0, .int 0, .int (-1), .ref a3, .ref a4, .int 0, .int 0, .int 0, .ref a5, .ref a6, .int 0, .int (-1), .int 0, .int 0, .ref a7, .ref a8, .ref a9, .ref a10, .int 0, .int 0, .ref a11, .ref a12, .int 0, .int 0, .ref a13, .ref a14, .ref a15, .int 0, .int 0, .ref a16, .ref a17, .ref a18]))] := hD
      refine W.eq (g2 := F0 m 51 ls [.int 1]) rfl ?_
      refine W.widen (k := 0) (n := 0) (Nat.le_of_ble_eq_true rfl) (Nat.le_of_ble_eq_true rfl) ?_
      refine lv_if_eq (tgt := 56) hx hb dX12_has_51 (by decide) (fun c9 => absurd c9 (by decide)) (fun _ => ?_)
      refine lv_iconst (v := 0) hx hb dX12_has_54 (by decide) ?_
      exact kt_zret hx hb hr hlocks hP hD hS (by first | rfl | decide | exact rfl) dX12_has_55 [1] rfl rfl rfl rfl ⟨1, 0, rfl, rfl, (Or.inl ⟨rfl, by first | exact fun q9 => absurd q9.1 (by unfold okWidth; assumption) | exact fun q9 => absurd q9.2 (by first | exact okSets_n1 (by assumption) | exact okSets_n2 (by assumption) | exact okSets_n3 (by assumption))⟩)⟩
  · have hP : va_P G vwCl [(h0, .inr (11, [.int 0, .ref a1, .int 0, .ref a2, .int 0, .int 0, .int 0, .int 0, .int (-1), .ref a3, .ref a4, .int 0, .int 0, .int 0, .ref a5, .ref a6, .int 0, .int (-1), .int 0, .int 0, .ref a7, .ref a8, .ref a9, .ref a10, .int 0, .int 0, .ref a11, .ref a12, .int 0, .int 0, .ref a13, .ref a14, .ref a15, .int 0, .int 0, .ref a16, .ref a17, .ref a18])), (a11, .inl (cy 1, 4096, .inl (fun _ => 0)))] H := hP
    have hD : va_D A [(h0, .inr (11, [.int 0, .ref a1, .int 0, .ref a2, .int 0, .int 0, .int 0, .int 0, .int (-1), .ref a3, .ref a4, .int 0, .int 0, .int 0, .ref a5, .ref a6, .int 0, .int (-1), .int 0, .int 0, .ref a7, .ref a8, .ref a9, .ref a10, .int 0, .int 0, .ref a11, .ref a12, .int 0, .int 0, .ref a13, .ref a14, .ref a15, .int 0, .int 0, .ref a16, .ref a17, .ref a18])), (a11, .inl (cy 1, 4096, .inl (fun _ => 0)))] := hD
    refine W.eq (g2 := F0 m 13 ls [.int 0, .ref h0]) rfl ?_
    refine W.widen (k := 0) (n := 0) (Nat.le_of_ble_eq_true rfl) (Nat.le_of_ble_eq_true rfl) ?_
    refine lv_if_eq (tgt := 42) hx hb dX12_has_13 (by decide) (fun _ => ?_) (fun c9 => absurd (by decide) c9)
    refine lv_iconst (v := 1) hx hb dX12_has_42 (by decide) ?_
    refine lv_goto (tgt := 47) hx hb dX12_has_43 (by decide) ?_
    refine lv_iconst (v := 1) hx hb dX12_has_47 (by decide) ?_
    refine kt_callV (wc := [(h0, .inr (11, [.int 0, .ref a1, .int 0, .ref a2, .int 0, .int 0, .int 0, .int 0, .int (-1), .ref a3, .ref a4, .int 0, .int 0, .int 0, .ref a5, .ref a6, .int 0, .int (-1), .int 0, .int 0, .ref a7, .ref a8, .ref a9, .ref a10, .int 0, .int 0, .ref a11, .ref a12, .int 0, .int 0, .ref a13, .ref a14, .ref a15, .int 0, .int 0, .ref a16, .ref a17, .ref a18]))]) (wr := [(a11, .inl (cy 1, 4096, .inl (fun _ => 0)))]) (As := [.int 1, .int 1]) (rest := []) (c_X12_throwsIf_1 l G cy h0 a1 a2 a3 a4 a5 a6 a7 a8 a9 a10 a11 a12 a13 a14 a15 a16 a17 a18 1) m_X12_throwsIf u_1752 hx hb hml hown hU hl.1 hK hP hD hS hA dX12_has_48 [0] [1] rfl rfl rfl rfl rfl rfl (Nat.le_of_ble_eq_true rfl) (ci := 11) rfl rfl rfl (fun v9 w9 H locs hw hP hD hS => ?_)
    obtain ⟨rfl, rfl⟩ := hw
    have hP : va_P G vwCl [(a11, .inl (cy 1, 4096, .inl (fun _ => 0))), (h0, .inr (11, [.int 1, .ref a1, .int 0, .ref a2, .int 0, .int 0, .int 0, .int 0, .int (-1), .ref a3, .ref a4, .int 0, .int 0, .int 0, .ref a5, .ref a6, .int 0, .int (-1), .int 0, .int 0, .ref a7, .ref a8, .ref a9, .ref a10, .int 0, .int 0, .ref a11, .ref a12, .int 0, .int 0, .ref a13, .ref a14, .ref a15, .int 0, .int 0, .ref a16, .ref a17, .ref a18]))] H := hP
    have hD : va_D A [(a11, .inl (cy 1, 4096, .inl (fun _ => 0))), (h0, .inr (11, [.int 1, .ref a1, .int 0, .ref a2, .int 0, .int 0, .int 0, .int 0, .int (-1), .ref a3, .ref a4, .int 0, .int 0, .int 0, .ref a5, .ref a6, .int 0, .int (-1), .int 0, .int 0, .ref a7, .ref a8, .ref a9, .ref a10, .int 0, .int 0, .ref a11, .ref a12, .int 0, .int 0, .ref a13, .ref a14, .ref a15, .int 0, .int 0, .ref a16, .ref a17, .ref a18]))] := hD
    refine W.eq (g2 := F0 m 51 ls [.int 1]) rfl ?_
    refine W.widen (k := 0) (n := 0) (Nat.le_of_ble_eq_true rfl) (Nat.le_of_ble_eq_true rfl) ?_
    refine lv_if_eq (tgt := 56) hx hb dX12_has_51 (by decide) (fun c9 => absurd c9 (by decide)) (fun _ => ?_)
    refine lv_iconst (v := 0) hx hb dX12_has_54 (by decide) ?_
    exact kt_zret hx hb hr hlocks hP hD hS (by first | rfl | decide | exact rfl) dX12_has_55 [1] rfl rfl rfl rfl ⟨1, 0, rfl, rfl, (Or.inl ⟨rfl, by first | exact fun q9 => absurd q9.1 (by unfold okWidth; assumption) | exact fun q9 => absurd q9.2 (by first | exact okSets_n1 (by assumption) | exact okSets_n2 (by assumption) | exact okSets_n3 (by assumption))⟩)⟩
