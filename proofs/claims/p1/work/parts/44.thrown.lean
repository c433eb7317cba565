theorem lx_cmp {a b : Int64} (h : a = b) : lg_cmp a b = 0 := by
  subst h
  unfold lg_cmp
  rw [if_neg (show ¬ a > a from fun h => Int64.lt_irrefl h), if_pos rfl]
set_option maxHeartbeats 4000000 in
set_option maxRecDepth 100000 in
theorem c_X12_thrown (l : Launch) (G : va_G) (cy : Nat → ClassId) (h0 : Nat) (fs : List Value) (th : Int32) (hfs : fs[0]? = some (.int th)) : Kt l G cy yX12_thrown cX12_thrown 1 (some .int) ({ frames := 10, cells := 0, slots := 0, locals := 200 } : Room) [.ref h0] [(h0, .inr (11, fs))] (fun (v : Option Value) (w1 : va_W) => v = some (.int th) ∧ w1 = []) := by
  refine kt_ofW (by decide) (Nat.le_of_ble_eq_true rfl) ?_
  intro p e s m below meth c A ls hx hb hr hU hown hlocks hml hin hP hK hD hA hS hl
  have hown : s.vm.findClass RX12 = some m.cls := hown
  have hl : lv_has ls 1 [(0, .ref h0)] := hl
  refine lv_aload_n hx hb dX12_thrown_0 rfl (lv_at hl 0 rfl) ?_
  refine va_get (D := G) (ci := 11) (v := .int th) (C := RX12) (T := TX12) (N := 38) hx hb hU in_X12 hown hK.1 hP 0 rfl rfl 0 (by decide) (hU _ u_1505) (fun _ h9 => h9) hfs dX12_thrown_1 ?_
  exact kt_iret hx hb hr hlocks hP hD hS dX12_thrown_4 [] rfl rfl rfl rfl ⟨rfl, rfl⟩
