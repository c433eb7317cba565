set_option maxHeartbeats 4000000 in
set_option maxRecDepth 100000 in
theorem c_X12_countOf (l : Launch) (G : va_G) (cy : Nat → ClassId) (h0 : Nat) (a1 : Nat) (a2 : Nat) (a3 : Nat) (a4 : Nat) (a5 : Nat) (a6 : Nat) (a7 : Nat) (a8 : Nat) (a9 : Nat) (a10 : Nat) (a11 : Nat) (a12 : Nat) (a13 : Nat) (a14 : Nat) (a15 : Nat) (a16 : Nat) (a17 : Nat) (a18 : Nat) (p0 : Int32) (p1 : Int32) : Kt l G cy yX12_countOf cX12_countOf 5 (some .int) ({ frames := 10, cells := 0, slots := 0, locals := 200 } : Room) [.ref h0, .int p0, .int p1] [(h0, .inr (11, [.int 0, .ref a1, .int 0, .ref a2, .int 0, .int 0, .int 0, .int 0, .int (-1), .ref a3, .ref a4, .int 0, .int 0, .int 0, .ref a5, .ref a6, .int 0, .int (-1), .int 0, .int 0, .ref a7, .ref a8, .ref a9, .ref a10, .int 0, .int 0, .ref a11, .ref a12, .int 0, .int 0, .ref a13, .ref a14, .ref a15, .int 0, .int 0, .ref a16, .ref a17, .ref a18]))] (fun (v : Option Value) (w1 : va_W) => v = some (.int 0) ∧ w1 = [(h0, .inr (11, [.int 0, .ref a1, .int 0, .ref a2, .int 0, .int 0, .int 0, .int 0, .int (-1), .ref a3, .ref a4, .int 0, .int 0, .int 0, .ref a5, .ref a6, .int 0, .int (-1), .int 0, .int 0, .ref a7, .ref a8, .ref a9, .ref a10, .int 0, .int 0, .ref a11, .ref a12, .int 0, .int 0, .ref a13, .ref a14, .ref a15, .int 0, .int 0, .ref a16, .ref a17, .ref a18]))]) := by
  refine kt_ofW (by decide) (Nat.le_of_ble_eq_true rfl) ?_
  intro p e s m below meth c A ls hx hb hr hU hown hlocks hml hin hP hK hD hA hS hl
  have hown : s.vm.findClass RX12 = some m.cls := hown
  have hl : lv_has ls 5 [(0, .ref h0), (1, .int p0), (2, .int p1)] := hl
  refine lv_iconst (v := 0) hx hb dX12_countOf_0 (by decide) ?_
  refine lv_istore_n (lv' := [(3, .int 0), (0, .ref h0), (1, .int p0), (2, .int p1)]) hx hb dX12_countOf_1 rfl hl (by decide) rfl (fun ls hl => ?_)
  refine lv_iconst (v := 0) hx hb dX12_countOf_2 (by decide) ?_
  refine lv_istore (lv' := [(4, .int 0), (3, .int 0), (0, .ref h0), (1, .int p0), (2, .int p1)]) hx hb dX12_countOf_3 hl (by decide) rfl (fun ls hl => ?_)
  refine lv_iload hx hb dX12_countOf_5 (lv_at hl 0 rfl) ?_
  refine lv_aload_n hx hb dX12_countOf_7 rfl (lv_at hl 2 rfl) ?_
  refine va_get (D := G) (ci := 11) (v := .int 0) (C := RX12) (T := TX12) (N := 38) hx hb hU in_X12 hown hK.1 hP 0 rfl rfl 12 (by decide) (hU _ u_1517) (fun _ h9 => h9) rfl dX12_countOf_8 ?_
  refine lv_icmp_ge (tgt := 39) hx hb dX12_countOf_11 (by decide) (fun _ => ?_) (fun c9 => absurd (by decide) c9)
  refine lv_iload_n hx hb dX12_countOf_39 rfl (lv_at hl 1 rfl) ?_
  exact kt_iret hx hb hr hlocks hP hD hS dX12_countOf_40 [0] rfl rfl rfl rfl ⟨rfl, rfl⟩
set_option maxHeartbeats 4000000 in
set_option maxRecDepth 100000 in
theorem c_X12_idle (l : Launch) (G : va_G) (cy : Nat → ClassId) (h0 : Nat) (a1 : Nat) (a2 : Nat) (a3 : Nat) (a4 : Nat) (a5 : Nat) (a6 : Nat) (a7 : Nat) (a8 : Nat) (a9 : Nat) (a10 : Nat) (a11 : Nat) (a12 : Nat) (a13 : Nat) (a14 : Nat) (a15 : Nat) (a16 : Nat) (a17 : Nat) (a18 : Nat) : Kt l G cy yX12_idle cX12_idle 3 (some .int) ({ frames := 10, cells := 0, slots := 0, locals := 200 } : Room) [.ref h0] [(h0, .inr (11, [.int 0, .ref a1, .int 0, .ref a2, .int 0, .int 0, .int 0, .int 0, .int (-1), .ref a3, .ref a4, .int 0, .int 0, .int 0, .ref a5, .ref a6, .int 0, .int (-1), .int 0, .int 0, .ref a7, .ref a8, .ref a9, .ref a10, .int 0, .int 0, .ref a11, .ref a12, .int 0, .int 0, .ref a13, .ref a14, .ref a15, .int 0, .int 0, .ref a16, .ref a17, .ref a18]))] (fun (v : Option Value) (w1 : va_W) => v = some (.int 0) ∧ w1 = [(h0, .inr (11, [.int 0, .ref a1, .int 0, .ref a2, .int 0, .int 0, .int 0, .int 0, .int (-1), .ref a3, .ref a4, .int 0, .int 0, .int 0, .ref a5, .ref a6, .int 0, .int (-1), .int 0, .int 0, .ref a7, .ref a8, .ref a9, .ref a10, .int 0, .int 0, .ref a11, .ref a12, .int 0, .int 0, .ref a13, .ref a14, .ref a15, .int 0, .int 0, .ref a16, .ref a17, .ref a18]))]) := by
  refine kt_ofW (by decide) (Nat.le_of_ble_eq_true rfl) ?_
  intro p e s m below meth c A ls hx hb hr hU hown hlocks hml hin hP hK hD hA hS hl
  have hown : s.vm.findClass RX12 = some m.cls := hown
  have hl : lv_has ls 3 [(0, .ref h0)] := hl
  refine lv_iconst (v := 0) hx hb dX12_idle_0 (by decide) ?_
  refine lv_istore_n (lv' := [(1, .int 0), (0, .ref h0)]) hx hb dX12_idle_1 rfl hl (by decide) rfl (fun ls hl => ?_)
  refine lv_aload_n hx hb dX12_idle_2 rfl (lv_at hl 1 rfl) ?_
  refine va_get (D := G) (ci := 11) (v := .int 0) (C := RX12) (T := TX12) (N := 38) hx hb hU in_X12 hown hK.1 hP 0 rfl rfl 11 (by decide) (hU _ u_1516) (fun _ h9 => h9) rfl dX12_idle_3 ?_
  refine lv_istore_n (lv' := [(2, .int 0), (1, .int 0), (0, .ref h0)]) hx hb dX12_idle_6 rfl hl (by decide) rfl (fun ls hl => ?_)
  refine lv_iload_n hx hb dX12_idle_7 rfl (lv_at hl 0 rfl) ?_
  refine lv_aload_n hx hb dX12_idle_8 rfl (lv_at hl 2 rfl) ?_
  refine va_get (D := G) (ci := 11) (v := .int 0) (C := RX12) (T := TX12) (N := 38) hx hb hU in_X12 hown hK.1 hP 0 rfl rfl 12 (by decide) (hU _ u_1517) (fun _ h9 => h9) rfl dX12_idle_9 ?_
  refine lv_icmp_ge (tgt := 37) hx hb dX12_idle_12 (by decide) (fun _ => ?_) (fun c9 => absurd (by decide) c9)
  refine lv_iload_n hx hb dX12_idle_37 rfl (lv_at hl 1 rfl) ?_
  exact kt_iret hx hb hr hlocks hP hD hS dX12_idle_38 [0] rfl rfl rfl rfl ⟨rfl, rfl⟩
set_option maxHeartbeats 4000000 in
set_option maxRecDepth 100000 in
theorem c_X12_count (l : Launch) (G : va_G) (cy : Nat → ClassId) (h0 : Nat) (a1 : Nat) (a2 : Nat) (a3 : Nat) (a4 : Nat) (a5 : Nat) (a6 : Nat) (a7 : Nat) (a8 : Nat) (a9 : Nat) (a10 : Nat) (a11 : Nat) (a12 : Nat) (a13 : Nat) (a14 : Nat) (a15 : Nat) (a16 : Nat) (a17 : Nat) (a18 : Nat) (p0 : Int32) : Kt l G cy yX12_count cX12_count 2 (some .int) ({ frames := 12, cells := 0, slots := 0, locals := 300 } : Room) [.ref h0, .int p0] [(h0, .inr (11, [.int 0, .ref a1, .int 0, .ref a2, .int 0, .int 0, .int 0, .int 0, .int (-1), .ref a3, .ref a4, .int 0, .int 0, .int 0, .ref a5, .ref a6, .int 0, .int (-1), .int 0, .int 0, .ref a7, .ref a8, .ref a9, .ref a10, .int 0, .int 0, .ref a11, .ref a12, .int 0, .int 0, .ref a13, .ref a14, .ref a15, .int 0, .int 0, .ref a16, .ref a17, .ref a18]))] (fun (v : Option Value) (w1 : va_W) => ∃ (r : Int32), v = some (.int r) ∧ w1 = [] ∧ (r = sp_count p0)) := by
  refine kt_ofW (by decide) (Nat.le_of_ble_eq_true rfl) ?_
  intro p e s m below meth c A ls hx hb hr hU hown hlocks hml hin hP hK hD hA hS hl
  have hown : s.vm.findClass RX12 = some m.cls := hown
  have hl : lv_has ls 2 [(0, .ref h0), (1, .int p0)] := hl
  refine lv_aload_n hx hb dX12_count_0 rfl (lv_at hl 0 rfl) ?_
  refine lv_iconst (v := 0) hx hb dX12_count_1 (by decide) ?_
  refine va_put (D := G) (ci := 11) (v := .int 0) (ty := .int) (C := RX12) (T := TX12) (N := 38) hx hb hU in_X12 tyX12 tyX12_ok nmX12 hown hK.1 hP hD hS 0 rfl rfl 0 (by decide) (hU _ u_1505) (fun _ h9 => h9) rfl (by decide +kernel) rfl rfl (Nat.le_of_ble_eq_true rfl) dX12_count_2 (fun H locs hP hD hS => ?_)
  have hP : va_P G vwCl [(h0, .inr (11, [.int 0, .ref a1, .int 0, .ref a2, .int 0, .int 0, .int 0, .int 0, .int (-1), .ref a3, .ref a4, .int 0, .int 0, .int 0, .ref a5, .ref a6, .int 0, .int (-1), .int 0, .int 0, .ref a7, .ref a8, .ref a9, .ref a10, .int 0, .int 0, .ref a11, .ref a12, .int 0, .int 0, .ref a13, .ref a14, .ref a15, .int 0, .int 0, .ref a16, .ref a17, .ref a18]))] H := hP
  have hD : va_D A [(h0, .inr (11, [.int 0, .ref a1, .int 0, .ref a2, .int 0, .int 0, .int 0, .int 0, .int (-1), .ref a3, .ref a4, .int 0, .int 0, .int 0, .ref a5, .ref a6, .int 0, .int (-1), .int 0, .int 0, .ref a7, .ref a8, .ref a9, .ref a10, .int 0, .int 0, .ref a11, .ref a12, .int 0, .int 0, .ref a13, .ref a14, .ref a15, .int 0, .int 0, .ref a16, .ref a17, .ref a18]))] := hD
  refine lv_iload_n hx hb dX12_count_5 rfl (lv_at hl 1 rfl) ?_
  by_cases c_1 : p0 = 0
  · refine lv_tableIn (off := 58) (tgt := 64) hx hb dX12_count_6 (by rw [c_1]; decide) (by rw [c_1]; decide) (by rw [c_1]; rfl) (by decide) ?_
    refine lv_aload_n hx hb dX12_count_64 rfl (lv_at hl 0 rfl) ?_
    refine va_get (D := G) (ci := 11) (v := .int 0) (C := RX12) (T := TX12) (N := 38) hx hb hU in_X12 hown hK.1 hP 0 rfl rfl 11 (by decide) (hU _ u_1516) (fun _ h9 => h9) rfl dX12_count_65 ?_
    exact kt_iret hx hb hr hlocks hP hD hS dX12_count_68 [] rfl rfl rfl rfl ⟨0, rfl, rfl, (by simp [sp_count, c_1])⟩
  by_cases c_2 : p0 = 1
  · refine lv_tableIn (off := 63) (tgt := 69) hx hb dX12_count_6 (by rw [c_2]; decide) (by rw [c_2]; decide) (by rw [c_2]; rfl) (by decide) ?_
    refine lv_aload_n hx hb dX12_count_69 rfl (lv_at hl 0 rfl) ?_
    refine va_get (D := G) (ci := 11) (v := .int 0) (C := RX12) (T := TX12) (N := 38) hx hb hU in_X12 hown hK.1 hP 0 rfl rfl 12 (by decide) (hU _ u_1517) (fun _ h9 => h9) rfl dX12_count_70 ?_
    exact kt_iret hx hb hr hlocks hP hD hS dX12_count_73 [] rfl rfl rfl rfl ⟨0, rfl, rfl, (by simp [sp_count, c_1, c_2])⟩
  by_cases c_3 : p0 = 2
  · refine lv_tableIn (off := 68) (tgt := 74) hx hb dX12_count_6 (by rw [c_3]; decide) (by rw [c_3]; decide) (by rw [c_3]; rfl) (by decide) ?_
    refine lv_aload_n hx hb dX12_count_74 rfl (lv_at hl 0 rfl) ?_
    refine lv_iconst (v := 1) hx hb dX12_count_75 (by decide) ?_
    refine lv_iconst (v := 0) hx hb dX12_count_76 (by decide) ?_
    refine kt_callV (wc := [(h0, .inr (11, [.int 0, .ref a1, .int 0, .ref a2, .int 0, .int 0, .int 0, .int 0, .int (-1), .ref a3, .ref a4, .int 0, .int 0, .int 0, .ref a5, .ref a6, .int 0, .int (-1), .int 0, .int 0, .ref a7, .ref a8, .ref a9, .ref a10, .int 0, .int 0, .ref a11, .ref a12, .int 0, .int 0, .ref a13, .ref a14, .ref a15, .int 0, .int 0, .ref a16, .ref a17, .ref a18]))]) (wr := []) (As := [.int 1, .int 0]) (rest := []) (c_X12_countOf l G cy h0 a1 a2 a3 a4 a5 a6 a7 a8 a9 a10 a11 a12 a13 a14 a15 a16 a17 a18 1 0) m_X12_countOf u_2104 hx hb hml hown hU hl.1 hK hP hD hS hA dX12_count_77 [0] [] rfl rfl rfl rfl rfl rfl (Nat.le_of_ble_eq_true rfl) (ci := 11) rfl rfl rfl (fun v9 w9 H locs hw hP hD hS => ?_)
    obtain ⟨rfl, rfl⟩ := hw
    have hP : va_P G vwCl [(h0, .inr (11, [.int 0, .ref a1, .int 0, .ref a2, .int 0, .int 0, .int 0, .int 0, .int (-1), .ref a3, .ref a4, .int 0, .int 0, .int 0, .ref a5, .ref a6, .int 0, .int (-1), .int 0, .int 0, .ref a7, .ref a8, .ref a9, .ref a10, .int 0, .int 0, .ref a11, .ref a12, .int 0, .int 0, .ref a13, .ref a14, .ref a15, .int 0, .int 0, .ref a16, .ref a17, .ref a18]))] H := hP
    have hD : va_D A [(h0, .inr (11, [.int 0, .ref a1, .int 0, .ref a2, .int 0, .int 0, .int 0, .int 0, .int (-1), .ref a3, .ref a4, .int 0, .int 0, .int 0, .ref a5, .ref a6, .int 0, .int (-1), .int 0, .int 0, .ref a7, .ref a8, .ref a9, .ref a10, .int 0, .int 0, .ref a11, .ref a12, .int 0, .int 0, .ref a13, .ref a14, .ref a15, .int 0, .int 0, .ref a16, .ref a17, .ref a18]))] := hD
    refine W.eq (g2 := F0 m 80 ls [.int 0]) rfl ?_
    refine W.widen (k := 0) (n := 0) (Nat.le_of_ble_eq_true rfl) (Nat.le_of_ble_eq_true rfl) ?_
    exact kt_iret hx hb hr hlocks hP hD hS dX12_count_80 [] rfl rfl rfl rfl ⟨0, rfl, rfl, (by simp [sp_count, c_1, c_2, c_3])⟩
  by_cases c_4 : p0 = 3
  · refine lv_tableIn (off := 75) (tgt := 81) hx hb dX12_count_6 (by rw [c_4]; decide) (by rw [c_4]; decide) (by rw [c_4]; rfl) (by decide) ?_
    refine lv_aload_n hx hb dX12_count_81 rfl (lv_at hl 0 rfl) ?_
    refine lv_iconst (v := 1) hx hb dX12_count_82 (by decide) ?_
    refine lv_iconst (v := 1) hx hb dX12_count_83 (by decide) ?_
    refine kt_callV (wc := [(h0, .inr (11, [.int 0, .ref a1, .int 0, .ref a2, .int 0, .int 0, .int 0, .int 0, .int (-1), .ref a3, .ref a4, .int 0, .int 0, .int 0, .ref a5, .ref a6, .int 0, .int (-1), .int 0, .int 0, .ref a7, .ref a8, .ref a9, .ref a10, .int 0, .int 0, .ref a11, .ref a12, .int 0, .int 0, .ref a13, .ref a14, .ref a15, .int 0, .int 0, .ref a16, .ref a17, .ref a18]))]) (wr := []) (As := [.int 1, .int 1]) (rest := []) (c_X12_countOf l G cy h0 a1 a2 a3 a4 a5 a6 a7 a8 a9 a10 a11 a12 a13 a14 a15 a16 a17 a18 1 1) m_X12_countOf u_2104 hx hb hml hown hU hl.1 hK hP hD hS hA dX12_count_84 [0] [] rfl rfl rfl rfl rfl rfl (Nat.le_of_ble_eq_true rfl) (ci := 11) rfl rfl rfl (fun v9 w9 H locs hw hP hD hS => ?_)
    obtain ⟨rfl, rfl⟩ := hw
    have hP : va_P G vwCl [(h0, .inr (11, [.int 0, .ref a1, .int 0, .ref a2, .int 0, .int 0, .int 0, .int 0, .int (-1), .ref a3, .ref a4, .int 0, .int 0, .int 0, .ref a5, .ref a6, .int 0, .int (-1), .int 0, .int 0, .ref a7, .ref a8, .ref a9, .ref a10, .int 0, .int 0, .ref a11, .ref a12, .int 0, .int 0, .ref a13, .ref a14, .ref a15, .int 0, .int 0, .ref a16, .ref a17, .ref a18]))] H := hP
    have hD : va_D A [(h0, .inr (11, [.int 0, .ref a1, .int 0, .ref a2, .int 0, .int 0, .int 0, .int 0, .int (-1), .ref a3, .ref a4, .int 0, .int 0, .int 0, .ref a5, .ref a6, .int 0, .int (-1), .int 0, .int 0, .ref a7, .ref a8, .ref a9, .ref a10, .int 0, .int 0, .ref a11, .ref a12, .int 0, .int 0, .ref a13, .ref a14, .ref a15, .int 0, .int 0, .ref a16, .ref a17, .ref a18]))] := hD
    refine W.eq (g2 := F0 m 87 ls [.int 0]) rfl ?_
    refine W.widen (k := 0) (n := 0) (Nat.le_of_ble_eq_true rfl) (Nat.le_of_ble_eq_true rfl) ?_
    exact kt_iret hx hb hr hlocks hP hD hS dX12_count_87 [] rfl rfl rfl rfl ⟨0, rfl, rfl, (by simp [sp_count, c_1, c_2, c_3, c_4])⟩
  by_cases c_5 : p0 = 4
  · refine lv_tableIn (off := 82) (tgt := 88) hx hb dX12_count_6 (by rw [c_5]; decide) (by rw [c_5]; decide) (by rw [c_5]; rfl) (by decide) ?_
    refine lv_aload_n hx hb dX12_count_88 rfl (lv_at hl 0 rfl) ?_
    refine lv_iconst (v := 0) hx hb dX12_count_89 (by decide) ?_
    refine lv_iconst (v := 1) hx hb dX12_count_90 (by decide) ?_
    refine kt_callV (wc := [(h0, .inr (11, [.int 0, .ref a1, .int 0, .ref a2, .int 0, .int 0, .int 0, .int 0, .int (-1), .ref a3, .ref a4, .int 0, .int 0, .int 0, .ref a5, .ref a6, .int 0, .int (-1), .int 0, .int 0, .ref a7, .ref a8, .ref a9, .ref a10, .int 0, .int 0, .ref a11, .ref a12, .int 0, .int 0, .ref a13, .ref a14, .ref a15, .int 0, .int 0, .ref a16, .ref a17, .ref a18]))]) (wr := []) (As := [.int 0, .int 1]) (rest := []) (c_X12_countOf l G cy h0 a1 a2 a3 a4 a5 a6 a7 a8 a9 a10 a11 a12 a13 a14 a15 a16 a17 a18 0 1) m_X12_countOf u_2104 hx hb hml hown hU hl.1 hK hP hD hS hA dX12_count_91 [0] [] rfl rfl rfl rfl rfl rfl (Nat.le_of_ble_eq_true rfl) (ci := 11) rfl rfl rfl (fun v9 w9 H locs hw hP hD hS => ?_)
    obtain ⟨rfl, rfl⟩ := hw
    have hP : va_P G vwCl [(h0, .inr (11, [.int 0, .ref a1, .int 0, .ref a2, .int 0, .int 0, .int 0, .int 0, .int (-1), .ref a3, .ref a4, .int 0, .int 0, .int 0, .ref a5, .ref a6, .int 0, .int (-1), .int 0, .int 0, .ref a7, .ref a8, .ref a9, .ref a10, .int 0, .int 0, .ref a11, .ref a12, .int 0, .int 0, .ref a13, .ref a14, .ref a15, .int 0, .int 0, .ref a16, .ref a17, .ref a18]))] H := hP
    have hD : va_D A [(h0, .inr (11, [.int 0, .ref a1, .int 0, .ref a2, .int 0, .int 0, .int 0, .int 0, .int (-1), .ref a3, .ref a4, .int 0, .int 0, .int 0, .ref a5, .ref a6, .int 0, .int (-1), .int 0, .int 0, .ref a7, .ref a8, .ref a9, .ref a10, .int 0, .int 0, .ref a11, .ref a12, .int 0, .int 0, .ref a13, .ref a14, .ref a15, .int 0, .int 0, .ref a16, .ref a17, .ref a18]))] := hD
    refine W.eq (g2 := F0 m 94 ls [.int 0]) rfl ?_
    refine W.widen (k := 0) (n := 0) (Nat.le_of_ble_eq_true rfl) (Nat.le_of_ble_eq_true rfl) ?_
    exact kt_iret hx hb hr hlocks hP hD hS dX12_count_94 [] rfl rfl rfl rfl ⟨0, rfl, rfl, (by simp [sp_count, c_1, c_2, c_3, c_4, c_5])⟩
  by_cases c_6 : p0 = 5
  · refine lv_tableIn (off := 89) (tgt := 95) hx hb dX12_count_6 (by rw [c_6]; decide) (by rw [c_6]; decide) (by rw [c_6]; rfl) (by decide) ?_
    refine lv_aload_n hx hb dX12_count_95 rfl (lv_at hl 0 rfl) ?_
    refine lv_iconst (v := 0) hx hb dX12_count_96 (by decide) ?_
    refine lv_bipush (v := 6) hx hb dX12_count_97 (by decide) ?_
    refine kt_callV (wc := [(h0, .inr (11, [.int 0, .ref a1, .int 0, .ref a2, .int 0, .int 0, .int 0, .int 0, .int (-1), .ref a3, .ref a4, .int 0, .int 0, .int 0, .ref a5, .ref a6, .int 0, .int (-1), .int 0, .int 0, .ref a7, .ref a8, .ref a9, .ref a10, .int 0, .int 0, .ref a11, .ref a12, .int 0, .int 0, .ref a13, .ref a14, .ref a15, .int 0, .int 0, .ref a16, .ref a17, .ref a18]))]) (wr := []) (As := [.int 0, .int 6]) (rest := []) (c_X12_countOf l G cy h0 a1 a2 a3 a4 a5 a6 a7 a8 a9 a10 a11 a12 a13 a14 a15 a16 a17 a18 0 6) m_X12_countOf u_2104 hx hb hml hown hU hl.1 hK hP hD hS hA dX12_count_99 [0] [] rfl rfl rfl rfl rfl rfl (Nat.le_of_ble_eq_true rfl) (ci := 11) rfl rfl rfl (fun v9 w9 H locs hw hP hD hS => ?_)
    obtain ⟨rfl, rfl⟩ := hw
    have hP : va_P G vwCl [(h0, .inr (11, [.int 0, .ref a1, .int 0, .ref a2, .int 0, .int 0, .int 0, .int 0, .int (-1), .ref a3, .ref a4, .int 0, .int 0, .int 0, .ref a5, .ref a6, .int 0, .int (-1), .int 0, .int 0, .ref a7, .ref a8, .ref a9, .ref a10, .int 0, .int 0, .ref a11, .ref a12, .int 0, .int 0, .ref a13, .ref a14, .ref a15, .int 0, .int 0, .ref a16, .ref a17, .ref a18]))] H := hP
    have hD : va_D A [(h0, .inr (11, [.int 0, .ref a1, .int 0, .ref a2, .int 0, .int 0, .int 0, .int 0, .int (-1), .ref a3, .ref a4, .int 0, .int 0, .int 0, .ref a5, .ref a6, .int 0, .int (-1), .int 0, .int 0, .ref a7, .ref a8, .ref a9, .ref a10, .int 0, .int 0, .ref a11, .ref a12, .int 0, .int 0, .ref a13, .ref a14, .ref a15, .int 0, .int 0, .ref a16, .ref a17, .ref a18]))] := hD
    refine W.eq (g2 := F0 m 102 ls [.int 0]) rfl ?_
    refine W.widen (k := 0) (n := 0) (Nat.le_of_ble_eq_true rfl) (Nat.le_of_ble_eq_true rfl) ?_
    exact kt_iret hx hb hr hlocks hP hD hS dX12_count_102 [] rfl rfl rfl rfl ⟨0, rfl, rfl, (by simp [sp_count, c_1, c_2, c_3, c_4, c_5, c_6])⟩
  by_cases c_7 : p0 = 6
  · refine lv_tableIn (off := 97) (tgt := 103) hx hb dX12_count_6 (by rw [c_7]; decide) (by rw [c_7]; decide) (by rw [c_7]; rfl) (by decide) ?_
    refine lv_aload_n hx hb dX12_count_103 rfl (lv_at hl 0 rfl) ?_
    refine lv_iconst (v := 0) hx hb dX12_count_104 (by decide) ?_
    refine lv_bipush (v := 8) hx hb dX12_count_105 (by decide) ?_
    refine kt_callV (wc := [(h0, .inr (11, [.int 0, .ref a1, .int 0, .ref a2, .int 0, .int 0, .int 0, .int 0, .int (-1), .ref a3, .ref a4, .int 0, .int 0, .int 0, .ref a5, .ref a6, .int 0, .int (-1), .int 0, .int 0, .ref a7, .ref a8, .ref a9, .ref a10, .int 0, .int 0, .ref a11, .ref a12, .int 0, .int 0, .ref a13, .ref a14, .ref a15, .int 0, .int 0, .ref a16, .ref a17, .ref a18]))]) (wr := []) (As := [.int 0, .int 8]) (rest := []) (c_X12_countOf l G cy h0 a1 a2 a3 a4 a5 a6 a7 a8 a9 a10 a11 a12 a13 a14 a15 a16 a17 a18 0 8) m_X12_countOf u_2104 hx hb hml hown hU hl.1 hK hP hD hS hA dX12_count_107 [0] [] rfl rfl rfl rfl rfl rfl (Nat.le_of_ble_eq_true rfl) (ci := 11) rfl rfl rfl (fun v9 w9 H locs hw hP hD hS => ?_)
    obtain ⟨rfl, rfl⟩ := hw
    have hP : va_P G vwCl [(h0, .inr (11, [.int 0, .ref a1, .int 0, .ref a2, .int 0, .int 0, .int 0, .int 0, .int (-1), .ref a3, .ref a4, .int 0, .int 0, .int 0, .ref a5, .ref a6, .int 0, .int (-1), .int 0, .int 0, .ref a7, .ref a8, .ref a9, .ref a10, .int 0, .int 0, .ref a11, .ref a12, .int 0, .int 0, .ref a13, .ref a14, .ref a15, .int 0, .int 0, .ref a16, .ref a17, .ref a18]))] H := hP
    have hD : va_D A [(h0, .inr (11, [.int 0, .ref a1, .int 0, .ref a2, .int 0, .int 0, .int 0, .int 0, .int (-1), .ref a3, .ref a4, .int 0, .int 0, .int 0, .ref a5, .ref a6, .int 0, .int (-1), .int 0, .int 0, .ref a7, .ref a8, .ref a9, .ref a10, .int 0, .int 0, .ref a11, .ref a12, .int 0, .int 0, .ref a13, .ref a14, .ref a15, .int 0, .int 0, .ref a16, .ref a17, .ref a18]))] := hD
    refine W.eq (g2 := F0 m 110 ls [.int 0]) rfl ?_
    refine W.widen (k := 0) (n := 0) (Nat.le_of_ble_eq_true rfl) (Nat.le_of_ble_eq_true rfl) ?_
    exact kt_iret hx hb hr hlocks hP hD hS dX12_count_110 [] rfl rfl rfl rfl ⟨0, rfl, rfl, (by simp [sp_count, c_1, c_2, c_3, c_4, c_5, c_6, c_7])⟩
  by_cases c_8 : p0 = 7
  · refine lv_tableIn (off := 105) (tgt := 111) hx hb dX12_count_6 (by rw [c_8]; decide) (by rw [c_8]; decide) (by rw [c_8]; rfl) (by decide) ?_
    refine lv_aload_n hx hb dX12_count_111 rfl (lv_at hl 0 rfl) ?_
    refine lv_iconst (v := 0) hx hb dX12_count_112 (by decide) ?_
    refine lv_bipush (v := 9) hx hb dX12_count_113 (by decide) ?_
    refine kt_callV (wc := [(h0, .inr (11, [.int 0, .ref a1, .int 0, .ref a2, .int 0, .int 0, .int 0, .int 0, .int (-1), .ref a3, .ref a4, .int 0, .int 0, .int 0, .ref a5, .ref a6, .int 0, .int (-1), .int 0, .int 0, .ref a7, .ref a8, .ref a9, .ref a10, .int 0, .int 0, .ref a11, .ref a12, .int 0, .int 0, .ref a13, .ref a14, .ref a15, .int 0, .int 0, .ref a16, .ref a17, .ref a18]))]) (wr := []) (As := [.int 0, .int 9]) (rest := []) (c_X12_countOf l G cy h0 a1 a2 a3 a4 a5 a6 a7 a8 a9 a10 a11 a12 a13 a14 a15 a16 a17 a18 0 9) m_X12_countOf u_2104 hx hb hml hown hU hl.1 hK hP hD hS hA dX12_count_115 [0] [] rfl rfl rfl rfl rfl rfl (Nat.le_of_ble_eq_true rfl) (ci := 11) rfl rfl rfl (fun v9 w9 H locs hw hP hD hS => ?_)
    obtain ⟨rfl, rfl⟩ := hw
    have hP : va_P G vwCl [(h0, .inr (11, [.int 0, .ref a1, .int 0, .ref a2, .int 0, .int 0, .int 0, .int 0, .int (-1), .ref a3, .ref a4, .int 0, .int 0, .int 0, .ref a5, .ref a6, .int 0, .int (-1), .int 0, .int 0, .ref a7, .ref a8, .ref a9, .ref a10, .int 0, .int 0, .ref a11, .ref a12, .int 0, .int 0, .ref a13, .ref a14, .ref a15, .int 0, .int 0, .ref a16, .ref a17, .ref a18]))] H := hP
    have hD : va_D A [(h0, .inr (11, [.int 0, .ref a1, .int 0, .ref a2, .int 0, .int 0, .int 0, .int 0, .int (-1), .ref a3, .ref a4, .int 0, .int 0, .int 0, .ref a5, .ref a6, .int 0, .int (-1), .int 0, .int 0, .ref a7, .ref a8, .ref a9, .ref a10, .int 0, .int 0, .ref a11, .ref a12, .int 0, .int 0, .ref a13, .ref a14, .ref a15, .int 0, .int 0, .ref a16, .ref a17, .ref a18]))] := hD
    refine W.eq (g2 := F0 m 118 ls [.int 0]) rfl ?_
    refine W.widen (k := 0) (n := 0) (Nat.le_of_ble_eq_true rfl) (Nat.le_of_ble_eq_true rfl) ?_
    exact kt_iret hx hb hr hlocks hP hD hS dX12_count_118 [] rfl rfl rfl rfl ⟨0, rfl, rfl, (by simp [sp_count, c_1, c_2, c_3, c_4, c_5, c_6, c_7, c_8])⟩
  by_cases c_9 : p0 = 8
  · refine lv_tableIn (off := 113) (tgt := 119) hx hb dX12_count_6 (by rw [c_9]; decide) (by rw [c_9]; decide) (by rw [c_9]; rfl) (by decide) ?_
    refine lv_aload_n hx hb dX12_count_119 rfl (lv_at hl 0 rfl) ?_
    refine va_get (D := G) (ci := 11) (v := .int 0) (C := RX12) (T := TX12) (N := 38) hx hb hU in_X12 hown hK.1 hP 0 rfl rfl 33 (by decide) (hU _ u_1538) (fun _ h9 => h9) rfl dX12_count_120 ?_
    exact kt_iret hx hb hr hlocks hP hD hS dX12_count_123 [] rfl rfl rfl rfl ⟨0, rfl, rfl, (by simp [sp_count, c_1, c_2, c_3, c_4, c_5, c_6, c_7, c_8, c_9])⟩
  by_cases c_10 : p0 = 9
  · refine lv_tableIn (off := 118) (tgt := 124) hx hb dX12_count_6 (by rw [c_10]; decide) (by rw [c_10]; decide) (by rw [c_10]; rfl) (by decide) ?_
    refine lv_aload_n hx hb dX12_count_124 rfl (lv_at hl 0 rfl) ?_
    refine lv_iconst (v := (-1)) hx hb dX12_count_125 (by decide) ?_
    refine kt_callV (wc := [(h0, .inr (11, [.int 0, .ref a1, .int 0, .ref a2, .int 0, .int 0, .int 0, .int 0, .int (-1), .ref a3, .ref a4, .int 0, .int 0, .int 0, .ref a5, .ref a6, .int 0, .int (-1), .int 0, .int 0, .ref a7, .ref a8, .ref a9, .ref a10, .int 0, .int 0, .ref a11, .ref a12, .int 0, .int 0, .ref a13, .ref a14, .ref a15, .int 0, .int 0, .ref a16, .ref a17, .ref a18]))]) (wr := []) (As := [.int (-1)]) (rest := []) (c_X12_models l G cy h0 a1 a2 a3 a4 a5 a6 a7 a8 a9 a10 a11 a12 a13 a14 a15 a16 a17 a18 (-1)) m_X12_models u_1894 hx hb hml hown hU hl.1 hK hP hD hS hA dX12_count_126 [0] [] rfl rfl rfl rfl rfl rfl (Nat.le_of_ble_eq_true rfl) (ci := 11) rfl rfl rfl (fun v9 w9 H locs hw hP hD hS => ?_)
    obtain ⟨rfl, rfl⟩ := hw
    have hP : va_P G vwCl [(h0, .inr (11, [.int 0, .ref a1, .int 0, .ref a2, .int 0, .int 0, .int 0, .int 0, .int (-1), .ref a3, .ref a4, .int 0, .int 0, .int 0, .ref a5, .ref a6, .int 0, .int (-1), .int 0, .int 0, .ref a7, .ref a8, .ref a9, .ref a10, .int 0, .int 0, .ref a11, .ref a12, .int 0, .int 0, .ref a13, .ref a14, .ref a15, .int 0, .int 0, .ref a16, .ref a17, .ref a18]))] H := hP
    have hD : va_D A [(h0, .inr (11, [.int 0, .ref a1, .int 0, .ref a2, .int 0, .int 0, .int 0, .int 0, .int (-1), .ref a3, .ref a4, .int 0, .int 0, .int 0, .ref a5, .ref a6, .int 0, .int (-1), .int 0, .int 0, .ref a7, .ref a8, .ref a9, .ref a10, .int 0, .int 0, .ref a11, .ref a12, .int 0, .int 0, .ref a13, .ref a14, .ref a15, .int 0, .int 0, .ref a16, .ref a17, .ref a18]))] := hD
    refine W.eq (g2 := F0 m 129 ls [.long (-1)]) rfl ?_
    refine W.widen (k := 0) (n := 0) (Nat.le_of_ble_eq_true rfl) (Nat.le_of_ble_eq_true rfl) ?_
    refine kt_callS (wc := []) (wr := [(h0, .inr (11, [.int 0, .ref a1, .int 0, .ref a2, .int 0, .int 0, .int 0, .int 0, .int (-1), .ref a3, .ref a4, .int 0, .int 0, .int 0, .ref a5, .ref a6, .int 0, .int (-1), .int 0, .int 0, .ref a7, .ref a8, .ref a9, .ref a10, .int 0, .int 0, .ref a11, .ref a12, .int 0, .int 0, .ref a13, .ref a14, .ref a15, .int 0, .int 0, .ref a16, .ref a17, .ref a18]))]) (As := [.long (-1)]) (rest := []) (c_X12_many l G cy ) m_X12_many u_1887 hx hb hml hown hU hl.1 hK hP hD hS hA dX12_count_129 [] [0] rfl rfl rfl rfl rfl rfl (Nat.le_of_ble_eq_true rfl) (fun v9 w9 H locs hw hP hD hS => ?_)
    obtain ⟨rfl, rfl⟩ := hw
    have hP : va_P G vwCl [(h0, .inr (11, [.int 0, .ref a1, .int 0, .ref a2, .int 0, .int 0, .int 0, .int 0, .int (-1), .ref a3, .ref a4, .int 0, .int 0, .int 0, .ref a5, .ref a6, .int 0, .int (-1), .int 0, .int 0, .ref a7, .ref a8, .ref a9, .ref a10, .int 0, .int 0, .ref a11, .ref a12, .int 0, .int 0, .ref a13, .ref a14, .ref a15, .int 0, .int 0, .ref a16, .ref a17, .ref a18]))] H := hP
    have hD : va_D A [(h0, .inr (11, [.int 0, .ref a1, .int 0, .ref a2, .int 0, .int 0, .int 0, .int 0, .int (-1), .ref a3, .ref a4, .int 0, .int 0, .int 0, .ref a5, .ref a6, .int 0, .int (-1), .int 0, .int 0, .ref a7, .ref a8, .ref a9, .ref a10, .int 0, .int 0, .ref a11, .ref a12, .int 0, .int 0, .ref a13, .ref a14, .ref a15, .int 0, .int 0, .ref a16, .ref a17, .ref a18]))] := hD
    refine W.eq (g2 := F0 m 132 ls [.int 64]) rfl ?_
    refine W.widen (k := 0) (n := 0) (Nat.le_of_ble_eq_true rfl) (Nat.le_of_ble_eq_true rfl) ?_
    exact kt_iret hx hb hr hlocks hP hD hS dX12_count_132 [] rfl rfl rfl rfl ⟨64, rfl, rfl, (by simp [sp_count, c_1, c_2, c_3, c_4, c_5, c_6, c_7, c_8, c_9, c_10])⟩
  by_cases c_11 : p0 = 10
  · refine lv_tableIn (off := 127) (tgt := 133) hx hb dX12_count_6 (by rw [c_11]; decide) (by rw [c_11]; decide) (by rw [c_11]; rfl) (by decide) ?_
    refine lv_aload_n hx hb dX12_count_133 rfl (lv_at hl 0 rfl) ?_
    refine kt_callV (wc := [(h0, .inr (11, [.int 0, .ref a1, .int 0, .ref a2, .int 0, .int 0, .int 0, .int 0, .int (-1), .ref a3, .ref a4, .int 0, .int 0, .int 0, .ref a5, .ref a6, .int 0, .int (-1), .int 0, .int 0, .ref a7, .ref a8, .ref a9, .ref a10, .int 0, .int 0, .ref a11, .ref a12, .int 0, .int 0, .ref a13, .ref a14, .ref a15, .int 0, .int 0, .ref a16, .ref a17, .ref a18]))]) (wr := []) (As := []) (rest := []) (c_X12_idle l G cy h0 a1 a2 a3 a4 a5 a6 a7 a8 a9 a10 a11 a12 a13 a14 a15 a16 a17 a18) m_X12_idle u_2108 hx hb hml hown hU hl.1 hK hP hD hS hA dX12_count_134 [0] [] rfl rfl rfl rfl rfl rfl (Nat.le_of_ble_eq_true rfl) (ci := 11) rfl rfl rfl (fun v9 w9 H locs hw hP hD hS => ?_)
    obtain ⟨rfl, rfl⟩ := hw
    have hP : va_P G vwCl [(h0, .inr (11, [.int 0, .ref a1, .int 0, .ref a2, .int 0, .int 0, .int 0, .int 0, .int (-1), .ref a3, .ref a4, .int 0, .int 0, .int 0, .ref a5, .ref a6, .int 0, .int (-1), .int 0, .int 0, .ref a7, .ref a8, .ref a9, .ref a10, .int 0, .int 0, .ref a11, .ref a12, .int 0, .int 0, .ref a13, .ref a14, .ref a15, .int 0, .int 0, .ref a16, .ref a17, .ref a18]))] H := hP
    have hD : va_D A [(h0, .inr (11, [.int 0, .ref a1, .int 0, .ref a2, .int 0, .int 0, .int 0, .int 0, .int (-1), .ref a3, .ref a4, .int 0, .int 0, .int 0, .ref a5, .ref a6, .int 0, .int (-1), .int 0, .int 0, .ref a7, .ref a8, .ref a9, .ref a10, .int 0, .int 0, .ref a11, .ref a12, .int 0, .int 0, .ref a13, .ref a14, .ref a15, .int 0, .int 0, .ref a16, .ref a17, .ref a18]))] := hD
    refine W.eq (g2 := F0 m 137 ls [.int 0]) rfl ?_
    refine W.widen (k := 0) (n := 0) (Nat.le_of_ble_eq_true rfl) (Nat.le_of_ble_eq_true rfl) ?_
    exact kt_iret hx hb hr hlocks hP hD hS dX12_count_137 [] rfl rfl rfl rfl ⟨0, rfl, rfl, (by simp [sp_count, c_1, c_2, c_3, c_4, c_5, c_6, c_7, c_8, c_9, c_10, c_11])⟩
  refine lv_tableOut (tgt := 138) hx hb dX12_count_6 (lx_tout (n := 10) (fun k9 h9 => by rcases (show k9 = 0 ∨ k9 = 1 ∨ k9 = 2 ∨ k9 = 3 ∨ k9 = 4 ∨ k9 = 5 ∨ k9 = 6 ∨ k9 = 7 ∨ k9 = 8 ∨ k9 = 9 ∨ k9 = 10 by omega) with rfl | rfl | rfl | rfl | rfl | rfl | rfl | rfl | rfl | rfl | rfl <;> assumption) (by decide)) (by decide) ?_
  refine lv_iconst (v := (-1)) hx hb dX12_count_138 (by decide) ?_
  exact kt_iret hx hb hr hlocks hP hD hS dX12_count_139 [] rfl rfl rfl rfl ⟨(-1), rfl, rfl, (by simp [sp_count, c_1, c_2, c_3, c_4, c_5, c_6, c_7, c_8, c_9, c_10, c_11])⟩
