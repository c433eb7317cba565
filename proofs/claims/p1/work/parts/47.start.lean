def lx_sa (own : String) (s : State) (k : Nat) : Nat := match (Term.string own k).eval #[] s none [] s with
  | some (.ref a) => a
  | _ => 0
theorem lx_str {own tx : String} {k : Nat} {A : Array Value} {s : State} (h1 : (Cond.stringRef own k tx).before A s = true) (h2 : (Cond.exactly (.string own k) "java/lang/String").before A s = true) : vk_R own k tx (lx_sa own s k) s := by
  obtain ⟨a, c, cA, kA, q1, -, -, -, -, -, -⟩ := Cond.exactly_spec (args := A) (first := s) (o := none) (s := s) (idx := []) (t := .string own k) (cls := "java/lang/String") h2
  have q2 : (Term.string own k).eval #[] s none [] s = some (.ref a) := q1
  have e : lx_sa own s k = a := by unfold lx_sa; rw [q2]
  rw [e]
  exact vk_R.of h1 q1
theorem xws_in : ∀ w ∈ xws, w ∈ lw_tbl := by decide +kernel
set_option maxHeartbeats 4000000 in
set_option maxRecDepth 100000 in
theorem whole_start {p : Program} {e : Env} {s : State} {m : MethodId} {below : List Frame} {meth : Method} {c : Code} (l : Launch) (hflags : l.flags = flags0) {b L : Nat} {xs : Nat → Int32} (hL : L ≤ 6) (C0 : lw_At p s m meth c b L xs) : W p l e room_1 s m #[Value.ref b] below meth c s.heap [] 0 0 (lw_Z below #[Value.ref b] s) (entryFrame m ([Value.ref b] : List Value).toArray 8) := by
  obtain ⟨hx, hb, hr, hml, hown, hts, hX, hbl, hlocks, hgv⟩ := id C0
  have hU : ∀ w ∈ UU, w.before #[Value.ref b] s = true := fun w h => hts w (List.mem_filter.mp h).1
  have hA : ∀ q : Nat, s.heap.size ≤ q → (fun q : Nat => s.heap.size ≤ q) q := fun _ h => h
  have hbA : ¬ (fun q : Nat => s.heap.size ≤ q) b := Nat.not_le.mpr hbl
  have hown : s.vm.findClass RL = some m.cls := hown
  have hlst : l.stackTraces = false := by unfold Launch.stackTraces; rw [hflags]; decide
  obtain ⟨c0, i0, hk0⟩ := u_known (C := RX0) (T := TX0) (N := 3) (n := 3) hU in_X0 (hU _ u_160)
  obtain ⟨c1, i1, hk1⟩ := u_known (C := RX1) (T := TX1) (N := 5) (n := 5) hU in_X1 (hU _ u_487)
  obtain ⟨c2, i2, hk2⟩ := u_known (C := RX2) (T := TX2) (N := 7) (n := 7) hU in_X2 (hU _ u_333)
  obtain ⟨c3, i3, hk3⟩ := u_known (C := RX3) (T := TX3) (N := 3) (n := 3) hU in_X3 (hU _ u_235)
  obtain ⟨c4, i4, hk4⟩ := u_known (C := RX4) (T := TX4) (N := 4) (n := 4) hU in_X4 (hU _ u_191)
  obtain ⟨c5, i5, hk5⟩ := u_known (C := RX5) (T := TX5) (N := 13) (n := 13) hU in_X5 (hU _ u_652)
  obtain ⟨c6, i6, hk6⟩ := u_known (C := RX6) (T := TX6) (N := 4) (n := 4) hU in_X6 (hU _ u_846)
  obtain ⟨c7, i7, hk7⟩ := u_known (C := RX7) (T := TX7) (N := 3) (n := 3) hU in_X7 (hU _ u_218)
  obtain ⟨c8, i8, hk8⟩ := u_known (C := RX8) (T := TX8) (N := 6) (n := 6) hU in_X8 (hU _ u_489)
  obtain ⟨c9, i9, hk9⟩ := u_known (C := RX10) (T := TX10) (N := 3) (n := 3) hU in_X10 (hU _ u_1245)
  obtain ⟨c10, i10, hk10⟩ := u_known (C := RX11) (T := TX11) (N := 9) (n := 9) hU in_X11 (hU _ u_152)
  obtain ⟨c11, i11, hk11⟩ := u_known (C := RX12) (T := TX12) (N := 38) (n := 38) hU in_X12 (hU _ u_1500)
  obtain ⟨G, hKc⟩ : ∃ G : va_G, ∀ (k : Nat) (q : vw_C), vwCl[k]? = some q → u_Kn s q.1 q.2.1 q.2.2 (G.1 k) (G.2 k) := by
    refine ⟨(fun k => match k with | 0 => c0 | 1 => c1 | 2 => c2 | 3 => c3 | 4 => c4 | 5 => c5 | 6 => c6 | 7 => c7 | 8 => c8 | 9 => c9 | 10 => c10 | _ => c11, fun k => match k with | 0 => i0 | 1 => i1 | 2 => i2 | 3 => i3 | 4 => i4 | 5 => i5 | 6 => i6 | 7 => i7 | 8 => i8 | 9 => i9 | 10 => i10 | _ => i11), ?_⟩
    intro k q hq
    match k, hq with
    | 0, hq => cases hq; exact hk0
    | 1, hq => cases hq; exact hk1
    | 2, hq => cases hq; exact hk2
    | 3, hq => cases hq; exact hk3
    | 4, hq => cases hq; exact hk4
    | 5, hq => cases hq; exact hk5
    | 6, hq => cases hq; exact hk6
    | 7, hq => cases hq; exact hk7
    | 8, hq => cases hq; exact hk8
    | 9, hq => cases hq; exact hk9
    | 10, hq => cases hq; exact hk10
    | 11, hq => cases hq; exact hk11
    | k + 12, hq => simp [vwCl] at hq
  obtain ⟨y0, hy0⟩ : ∃ cA : ClassId, ArrOfT s cA .byte ∧ va_RA s cA .byte := by
    obtain ⟨cA, kA, comp, g1, g2, g3⟩ := Cond.arrayClass_spec (hU _ u_189)
    exact ⟨cA, fun n z => ⟨fun k h => (by cases h), kA, g2, comp, g3⟩, g1⟩
  obtain ⟨y1, hy1⟩ : ∃ cA : ClassId, ArrOfT s cA .int ∧ va_RA s cA .int := by
    obtain ⟨cA, kA, comp, g1, g2, g3⟩ := Cond.arrayClass_spec (hU _ u_214)
    exact ⟨cA, fun n z => ⟨fun k h => (by cases h), kA, g2, comp, g3⟩, g1⟩
  obtain ⟨y2, hy2⟩ : ∃ cA : ClassId, ArrOfT s cA .long ∧ va_RA s cA .long := by
    obtain ⟨cA, kA, comp, g1, g2, g3⟩ := Cond.arrayClass_spec (hU _ u_364)
    exact ⟨cA, fun n z => ⟨fun k h => (by cases h), kA, g2, comp, g3⟩, g1⟩
  obtain ⟨y3, hy3⟩ : ∃ cA : ClassId, ArrOfT s cA .boolean ∧ va_RA s cA .boolean := by
    obtain ⟨cA, kA, comp, g1, g2, g3⟩ := Cond.arrayClass_spec (hU _ u_1620)
    exact ⟨cA, fun n z => ⟨fun k h => (by cases h), kA, g2, comp, g3⟩, g1⟩
  have ho4 : (Cond.arrayOver (.object "PlaneProof$Line")).before #[Value.ref b] s = true := hts _ (List.mem_of_getElem? (i := 162) (by decide +kernel))
  obtain ⟨y4, hy4⟩ : ∃ cA : ClassId, ArrOfT s cA (.object "PlaneProof$Line") ∧ va_RA s cA (.object "PlaneProof$Line") := by
    obtain ⟨comp, cA, kA, g1, g2, g3, g4, g5⟩ := Cond.arrayOver_spec ho4
    exact ⟨cA, fun n z => ⟨fun k h => (by cases h), kA, g3, comp, g4⟩, kA, comp, g3, g4, g1, g5⟩
  have ho5 : (Cond.arrayOver (.object "PlaneProof$Closure")).before #[Value.ref b] s = true := hts _ (List.mem_of_getElem? (i := 216) (by decide +kernel))
  obtain ⟨y5, hy5⟩ : ∃ cA : ClassId, ArrOfT s cA (.object "PlaneProof$Closure") ∧ va_RA s cA (.object "PlaneProof$Closure") := by
    obtain ⟨comp, cA, kA, g1, g2, g3, g4, g5⟩ := Cond.arrayOver_spec ho5
    exact ⟨cA, fun n z => ⟨fun k h => (by cases h), kA, g3, comp, g4⟩, kA, comp, g3, g4, g1, g5⟩
  obtain ⟨cy, hcy⟩ : ∃ cy : Nat → ClassId, cy 0 = y0 ∧ cy 1 = y1 ∧ cy 2 = y2 ∧ cy 3 = y3 ∧ cy 4 = y4 ∧ cy 5 = y5 := ⟨fun k => match k with | 0 => y0 | 1 => y1 | 2 => y2 | 3 => y3 | 4 => y4 | _ => y5, rfl, rfl, rfl, rfl, rfl, rfl⟩
  obtain ⟨rfl, rfl, rfl, rfl, rfl, rfl⟩ := hcy
  have hK : kK G cy s := by
    refine ⟨⟨hKc, fun k q hq => ?_⟩, va_AO.of ho4, va_AO.of ho5⟩
    match k, hq with
    | 0, hq => cases hq; exact hy0
    | 1, hq => cases hq; exact hy1
    | 2, hq => cases hq; exact hy2
    | 3, hq => cases hq; exact hy3
    | 4, hq => cases hq; exact hy4
    | 5, hq => cases hq; exact hy5
    | k + 6, hq => simp [tysP] at hq
  have hs := flat_of_before _ hgv
  have hst : ∀ q ∈ xstrs, vk_R RX11 q.1 q.2 (lx_sa RX11 s q.1) s := by
    intro q hq
    simp only [xstrs, List.mem_cons, List.not_mem_nil, or_false] at hq
    rcases hq with rfl | rfl | rfl | rfl | rfl | rfl | rfl | rfl
    · exact lx_str (A := #[Value.ref b]) (hts (.stringRef RX11 325 "no such line") (List.mem_of_getElem? (i := 1092) (by decide +kernel))) (hs (.exactly (.string RX11 325) "java/lang/String") (by decide +kernel))
    · exact lx_str (A := #[Value.ref b]) (hts (.stringRef RX11 143 "another what") (List.mem_of_getElem? (i := 1108) (by decide +kernel))) (hs (.exactly (.string RX11 143) "java/lang/String") (by decide +kernel))
    · exact lx_str (A := #[Value.ref b]) (hts (.stringRef RX11 154 "no such variable") (List.mem_of_getElem? (i := 1130) (by decide +kernel))) (hs (.exactly (.string RX11 154) "java/lang/String") (by decide +kernel))
    · exact lx_str (A := #[Value.ref b]) (hts (.stringRef RX11 329 "no sets, or one in common") (List.mem_of_getElem? (i := 1243) (by decide +kernel))) (hs (.exactly (.string RX11 329) "java/lang/String") (by decide +kernel))
    · exact lx_str (A := #[Value.ref b]) (hts (.stringRef RX11 331 "no width") (List.mem_of_getElem? (i := 1290) (by decide +kernel))) (hs (.exactly (.string RX11 331) "java/lang/String") (by decide +kernel))
    · exact lx_str (A := #[Value.ref b]) (hts (.stringRef RX11 269 "another what, or no node") (List.mem_of_getElem? (i := 1307) (by decide +kernel))) (hs (.exactly (.string RX11 269) "java/lang/String") (by decide +kernel))
    · exact lx_str (A := #[Value.ref b]) (hts (.stringRef RX11 274 "no number of pebbles") (List.mem_of_getElem? (i := 1315) (by decide +kernel))) (hs (.exactly (.string RX11 274) "java/lang/String") (by decide +kernel))
    · exact lx_str (A := #[Value.ref b]) (hts (.stringRef RX11 311 "no such axiom") (List.mem_of_getElem? (i := 1491) (by decide +kernel))) (hs (.exactly (.string RX11 311) "java/lang/String") (by decide +kernel))
  have hZ : xU (lx_sa RX11 s) (fun q : Nat => s.heap.size ≤ q) s s.heap := by
    refine ⟨vx_Zqof (args := #[Value.ref b]) (hts (.laysStatic Bundle.tN "UNASSIGNED_STACK" Bundle.steD) (List.mem_of_getElem? (i := 1004) (by decide +kernel))) (hU _ u_140) (hs (.isRef (.static Bundle.tN "UNASSIGNED_STACK" Bundle.steD)) (by decide +kernel)) (fun a ha => Nat.not_le.mpr ha), ?_, ?_, ?_, hst⟩
    · exact vx_Zqof (args := #[Value.ref b]) (hts (.laysStatic Bundle.tN "SUPPRESSED_SENTINEL" Bundle.listD) (List.mem_of_getElem? (i := 1006) (by decide +kernel))) (hU _ u_140) (hs (.isRef (.static Bundle.tN "SUPPRESSED_SENTINEL" Bundle.listD)) (by decide +kernel)) (fun a ha => Nat.not_le.mpr ha)
    · exact va_Nc.of (hs (.not (.castable eNS eIA)) (by decide +kernel))
    · exact fun w hw => va_Nw.of (xws_ok w hw).1 (hts w (xws_in w hw))
  have hS : va_S (fun q : Nat => s.heap.size ≤ q) s.heap s.heap [] := va_S.rf
  have hP : va_P G vwCl [] s.heap := fun k q h => by simp at h
  have hD : va_D (fun q : Nat => s.heap.size ≤ q) [] := ⟨fun i j p q h => by simp at h, fun k q h => by simp at h⟩
  have hl := lv_entry ([.ref b]) (n := 8) (Nat.le_of_ble_eq_true rfl)
  rw [lg_entry_eq]
  generalize (lg_sl ([.ref b]) ++ List.replicate (8 - (lg_sl ([.ref b])).length) Slot.unset).toArray = ls at hl ⊢
  have hl : lv_has ls 8 [(0, .ref b)] := hl
  refine va_new (ci := 10) (fs := [.null, .int 0, .int 0, .null, .null, .null, .int 0, .null, .null]) (C := RX11) (T := TX11) (N := 9) hx hb hU in_X11 tyX11 tyX11_ok hown (hU _ u_151) (hU _ u_152) (hU _ u_123) hK.1 hP hD hS hA rfl df_X11 (Nat.le_of_ble_eq_true rfl) (Nat.le_of_ble_eq_true rfl) dL_law_0 (fun q_1 H hP hD hS => ?_)
  have hP : va_P G vwCl [(q_1, .inr (10, [.null, .int 0, .int 0, .null, .null, .null, .int 0, .null, .null]))] H := hP
  have hD : va_D (fun q : Nat => s.heap.size ≤ q) [(q_1, .inr (10, [.null, .int 0, .int 0, .null, .null, .null, .int 0, .null, .null]))] := hD
  refine W.widen (k := 1) (n := 9) (Nat.le_of_ble_eq_true rfl) (Nat.le_of_ble_eq_true rfl) ?_
  refine lv_dup hx hb dL_law_3 rfl ?_
  refine kt_callI (wc := [(q_1, .inr (10, [.null, .int 0, .int 0, .null, .null, .null, .int 0, .null, .null]))]) (wr := []) (As := []) (rest := [.ref q_1]) (c_X11_init l G cy q_1) m_X11_init u_153 hx hb hml hown hU hl.1 hK hP hD hS hA dL_law_4 [0] [] rfl rfl rfl rfl rfl rfl (Nat.le_of_ble_eq_true rfl) (fun v9 w9 H locs hw hP hD hS => ?_)
  obtain ⟨x_2, x_3, x_4, x_5, x_6, x_7, x_8, x_9, x_10, x_11, rfl, rfl⟩ := hw
  have hP : va_P G vwCl [(q_1, .inr (10, [.ref x_2, .int 0, .int (-1), .ref x_3, .ref x_4, .ref x_5, .int (-2), .ref x_6, .ref x_7])), (x_2, .inl (cy 0, 400, .inl (fun _ => 0))), (x_3, .inr (0, [.ref x_8, .int 0, .int 0])), (x_8, .inl (cy 4, 56, .inr (.inr (.inr (.inr (fun _ => none)))))), (x_4, .inr (4, [.int 0, .int 0, .int (-1), .ref x_9])), (x_9, .inl (cy 1, 6, .inl (fun _ => 0))), (x_5, .inl (cy 5, 7, .inr (.inr (.inr (.inr (fun _ => none)))))), (x_6, .inr (7, [.ref x_10, .int 0, .int 0])), (x_10, .inl (cy 0, 400, .inl (fun _ => 0))), (x_7, .inr (3, [.ref x_6, .ref x_11, .int 0])), (x_11, .inl (cy 1, 56, .inl (fun _ => 0)))] H := hP
  have hD : va_D (fun q : Nat => s.heap.size ≤ q) [(q_1, .inr (10, [.ref x_2, .int 0, .int (-1), .ref x_3, .ref x_4, .ref x_5, .int (-2), .ref x_6, .ref x_7])), (x_2, .inl (cy 0, 400, .inl (fun _ => 0))), (x_3, .inr (0, [.ref x_8, .int 0, .int 0])), (x_8, .inl (cy 4, 56, .inr (.inr (.inr (.inr (fun _ => none)))))), (x_4, .inr (4, [.int 0, .int 0, .int (-1), .ref x_9])), (x_9, .inl (cy 1, 6, .inl (fun _ => 0))), (x_5, .inl (cy 5, 7, .inr (.inr (.inr (.inr (fun _ => none)))))), (x_6, .inr (7, [.ref x_10, .int 0, .int 0])), (x_10, .inl (cy 0, 400, .inl (fun _ => 0))), (x_7, .inr (3, [.ref x_6, .ref x_11, .int 0])), (x_11, .inl (cy 1, 56, .inl (fun _ => 0)))] := hD
  refine W.eq (g2 := F0 m 7 ls [.ref q_1]) rfl ?_
  refine W.widen (k := 11) (n := 947) (Nat.le_of_ble_eq_true rfl) (Nat.le_of_ble_eq_true rfl) ?_
  refine lv_astore_n (lv' := [(1, .ref q_1), (0, .ref b)]) hx hb dL_law_7 rfl hl (by decide) rfl (fun ls hl => ?_)
  refine va_new (ci := 11) (fs := [.int 0, .null, .int 0, .null, .int 0, .int 0, .int 0, .int 0, .int 0, .null, .null, .int 0, .int 0, .int 0, .null, .null, .int 0, .int 0, .int 0, .int 0, .null, .null, .null, .null, .int 0, .int 0, .null, .null, .int 0, .int 0, .null, .null, .null, .int 0, .int 0, .null, .null, .null]) (C := RX12) (T := TX12) (N := 38) hx hb hU in_X12 tyX12 tyX12_ok hown (hU _ u_1499) (hU _ u_1500) (hU _ u_128) hK.1 hP hD hS hA rfl df_X12 (Nat.le_of_ble_eq_true rfl) (Nat.le_of_ble_eq_true rfl) dL_law_8 (fun q_12 H hP hD hS => ?_)
  have hP : va_P G vwCl [(q_1, .inr (10, [.ref x_2, .int 0, .int (-1), .ref x_3, .ref x_4, .ref x_5, .int (-2), .ref x_6, .ref x_7])), (x_2, .inl (cy 0, 400, .inl (fun _ => 0))), (x_3, .inr (0, [.ref x_8, .int 0, .int 0])), (x_8, .inl (cy 4, 56, .inr (.inr (.inr (.inr (fun _ => none)))))), (x_4, .inr (4, [.int 0, .int 0, .int (-1), .ref x_9])), (x_9, .inl (cy 1, 6, .inl (fun _ => 0))), (x_5, .inl (cy 5, 7, .inr (.inr (.inr (.inr (fun _ => none)))))), (x_6, .inr (7, [.ref x_10, .int 0, .int 0])), (x_10, .inl (cy 0, 400, .inl (fun _ => 0))), (x_7, .inr (3, [.ref x_6, .ref x_11, .int 0])), (x_11, .inl (cy 1, 56, .inl (fun _ => 0))), (q_12, .inr (11, [.int 0, .null, .int 0, .null, .int 0, .int 0, .int 0, .int 0, .int 0, .null, .null, .int 0, .int 0, .int 0, .null, .null, .int 0, .int 0, .int 0, .int 0, .null, .null, .null, .null, .int 0, .int 0, .null, .null, .int 0, .int 0, .null, .null, .null, .int 0, .int 0, .null, .null, .null]))] H := hP
  have hD : va_D (fun q : Nat => s.heap.size ≤ q) [(q_1, .inr (10, [.ref x_2, .int 0, .int (-1), .ref x_3, .ref x_4, .ref x_5, .int (-2), .ref x_6, .ref x_7])), (x_2, .inl (cy 0, 400, .inl (fun _ => 0))), (x_3, .inr (0, [.ref x_8, .int 0, .int 0])), (x_8, .inl (cy 4, 56, .inr (.inr (.inr (.inr (fun _ => none)))))), (x_4, .inr (4, [.int 0, .int 0, .int (-1), .ref x_9])), (x_9, .inl (cy 1, 6, .inl (fun _ => 0))), (x_5, .inl (cy 5, 7, .inr (.inr (.inr (.inr (fun _ => none)))))), (x_6, .inr (7, [.ref x_10, .int 0, .int 0])), (x_10, .inl (cy 0, 400, .inl (fun _ => 0))), (x_7, .inr (3, [.ref x_6, .ref x_11, .int 0])), (x_11, .inl (cy 1, 56, .inl (fun _ => 0))), (q_12, .inr (11, [.int 0, .null, .int 0, .null, .int 0, .int 0, .int 0, .int 0, .int 0, .null, .null, .int 0, .int 0, .int 0, .null, .null, .int 0, .int 0, .int 0, .int 0, .null, .null, .null, .null, .int 0, .int 0, .null, .null, .int 0, .int 0, .null, .null, .null, .int 0, .int 0, .null, .null, .null]))] := hD
  refine W.widen (k := 12) (n := 985) (Nat.le_of_ble_eq_true rfl) (Nat.le_of_ble_eq_true rfl) ?_
  refine lv_dup hx hb dL_law_11 rfl ?_
  refine kt_callI (wc := [(q_12, .inr (11, [.int 0, .null, .int 0, .null, .int 0, .int 0, .int 0, .int 0, .int 0, .null, .null, .int 0, .int 0, .int 0, .null, .null, .int 0, .int 0, .int 0, .int 0, .null, .null, .null, .null, .int 0, .int 0, .null, .null, .int 0, .int 0, .null, .null, .null, .int 0, .int 0, .null, .null, .null]))]) (wr := [(q_1, .inr (10, [.ref x_2, .int 0, .int (-1), .ref x_3, .ref x_4, .ref x_5, .int (-2), .ref x_6, .ref x_7])), (x_2, .inl (cy 0, 400, .inl (fun _ => 0))), (x_3, .inr (0, [.ref x_8, .int 0, .int 0])), (x_8, .inl (cy 4, 56, .inr (.inr (.inr (.inr (fun _ => none)))))), (x_4, .inr (4, [.int 0, .int 0, .int (-1), .ref x_9])), (x_9, .inl (cy 1, 6, .inl (fun _ => 0))), (x_5, .inl (cy 5, 7, .inr (.inr (.inr (.inr (fun _ => none)))))), (x_6, .inr (7, [.ref x_10, .int 0, .int 0])), (x_10, .inl (cy 0, 400, .inl (fun _ => 0))), (x_7, .inr (3, [.ref x_6, .ref x_11, .int 0])), (x_11, .inl (cy 1, 56, .inl (fun _ => 0)))]) (As := []) (rest := [.ref q_12]) (c_X12_init l G cy q_12) m_X12_init u_1501 hx hb hml hown hU hl.1 hK hP hD hS hA dL_law_12 [11] [0, 1, 2, 3, 4, 5, 6, 7, 8, 9, 10] rfl rfl rfl rfl rfl rfl (Nat.le_of_ble_eq_true rfl) (fun v9 w9 H locs hw hP hD hS => ?_)
  obtain ⟨x_13, x_14, x_15, x_16, x_17, x_18, x_19, x_20, x_21, x_22, x_23, x_24, x_25, x_26, x_27, x_28, x_29, x_30, rfl, rfl⟩ := hw
  have hP : va_P G vwCl [(q_1, .inr (10, [.ref x_2, .int 0, .int (-1), .ref x_3, .ref x_4, .ref x_5, .int (-2), .ref x_6, .ref x_7])), (x_2, .inl (cy 0, 400, .inl (fun _ => 0))), (x_3, .inr (0, [.ref x_8, .int 0, .int 0])), (x_8, .inl (cy 4, 56, .inr (.inr (.inr (.inr (fun _ => none)))))), (x_4, .inr (4, [.int 0, .int 0, .int (-1), .ref x_9])), (x_9, .inl (cy 1, 6, .inl (fun _ => 0))), (x_5, .inl (cy 5, 7, .inr (.inr (.inr (.inr (fun _ => none)))))), (x_6, .inr (7, [.ref x_10, .int 0, .int 0])), (x_10, .inl (cy 0, 400, .inl (fun _ => 0))), (x_7, .inr (3, [.ref x_6, .ref x_11, .int 0])), (x_11, .inl (cy 1, 56, .inl (fun _ => 0))), (q_12, .inr (11, [.int 0, .ref x_13, .int 0, .ref x_14, .int 0, .int 0, .int 0, .int 0, .int (-1), .ref x_15, .ref x_16, .int 0, .int 0, .int 0, .ref x_17, .ref x_18, .int 0, .int (-1), .int 0, .int 0, .ref x_19, .ref x_20, .ref x_21, .ref x_22, .int 0, .int 0, .ref x_23, .ref x_24, .int 0, .int 0, .ref x_25, .ref x_26, .ref x_27, .int 0, .int 0, .ref x_28, .ref x_29, .ref x_30])), (x_13, .inl (cy 0, 400, .inl (fun _ => 0))), (x_14, .inl (cy 1, 5, .inl (fun _ => 0))), (x_15, .inl (cy 1, 1232, .inl (fun _ => 0))), (x_16, .inl (cy 1, 1232, .inl (fun _ => 0))), (x_17, .inl (cy 1, 6, .inl (fun _ => 0))), (x_18, .inl (cy 1, 6, .inl (fun _ => 0))), (x_19, .inl (cy 3, 56, .inl (fun _ => 0))), (x_20, .inl (cy 1, 56, .inl (fun _ => 0))), (x_21, .inl (cy 1, 56, .inl (fun _ => 0))), (x_22, .inl (cy 2, 56, .inr (.inl (fun _ => 0)))), (x_23, .inl (cy 1, 4096, .inl (fun _ => 0))), (x_24, .inl (cy 1, 4096, .inl (fun _ => 0))), (x_25, .inl (cy 1, 64, .inl (fun _ => 0))), (x_26, .inl (cy 1, 64, .inl (fun _ => 0))), (x_27, .inl (cy 0, 20000, .inl (fun _ => 0))), (x_28, .inl (cy 1, 56, .inl (fun _ => 0))), (x_29, .inl (cy 0, 20000, .inl (fun _ => 0))), (x_30, .inl (cy 2, 16, .inr (.inl (fun _ => 0))))] H := hP
  have hD : va_D (fun q : Nat => s.heap.size ≤ q) [(q_1, .inr (10, [.ref x_2, .int 0, .int (-1), .ref x_3, .ref x_4, .ref x_5, .int (-2), .ref x_6, .ref x_7])), (x_2, .inl (cy 0, 400, .inl (fun _ => 0))), (x_3, .inr (0, [.ref x_8, .int 0, .int 0])), (x_8, .inl (cy 4, 56, .inr (.inr (.inr (.inr (fun _ => none)))))), (x_4, .inr (4, [.int 0, .int 0, .int (-1), .ref x_9])), (x_9, .inl (cy 1, 6, .inl (fun _ => 0))), (x_5, .inl (cy 5, 7, .inr (.inr (.inr (.inr (fun _ => none)))))), (x_6, .inr (7, [.ref x_10, .int 0, .int 0])), (x_10, .inl (cy 0, 400, .inl (fun _ => 0))), (x_7, .inr (3, [.ref x_6, .ref x_11, .int 0])), (x_11, .inl (cy 1, 56, .inl (fun _ => 0))), (q_12, .inr (11, [.int 0, .ref x_13, .int 0, .ref x_14, .int 0, .int 0, .int 0, .int 0, .int (-1), .ref x_15, .ref x_16, .int 0, .int 0, .int 0, .ref x_17, .ref x_18, .int 0, .int (-1), .int 0, .int 0, .ref x_19, .ref x_20, .ref x_21, .ref x_22, .int 0, .int 0, .ref x_23, .ref x_24, .int 0, .int 0, .ref x_25, .ref x_26, .ref x_27, .int 0, .int 0, .ref x_28, .ref x_29, .ref x_30])), (x_13, .inl (cy 0, 400, .inl (fun _ => 0))), (x_14, .inl (cy 1, 5, .inl (fun _ => 0))), (x_15, .inl (cy 1, 1232, .inl (fun _ => 0))), (x_16, .inl (cy 1, 1232, .inl (fun _ => 0))), (x_17, .inl (cy 1, 6, .inl (fun _ => 0))), (x_18, .inl (cy 1, 6, .inl (fun _ => 0))), (x_19, .inl (cy 3, 56, .inl (fun _ => 0))), (x_20, .inl (cy 1, 56, .inl (fun _ => 0))), (x_21, .inl (cy 1, 56, .inl (fun _ => 0))), (x_22, .inl (cy 2, 56, .inr (.inl (fun _ => 0)))), (x_23, .inl (cy 1, 4096, .inl (fun _ => 0))), (x_24, .inl (cy 1, 4096, .inl (fun _ => 0))), (x_25, .inl (cy 1, 64, .inl (fun _ => 0))), (x_26, .inl (cy 1, 64, .inl (fun _ => 0))), (x_27, .inl (cy 0, 20000, .inl (fun _ => 0))), (x_28, .inl (cy 1, 56, .inl (fun _ => 0))), (x_29, .inl (cy 0, 20000, .inl (fun _ => 0))), (x_30, .inl (cy 2, 16, .inr (.inl (fun _ => 0))))] := hD
  refine W.eq (g2 := F0 m 15 ls [.ref q_12]) rfl ?_
  refine W.widen (k := 30) (n := 52482) (Nat.le_of_ble_eq_true rfl) (Nat.le_of_ble_eq_true rfl) ?_
  refine lv_astore_n (lv' := [(2, .ref q_12), (1, .ref q_1), (0, .ref b)]) hx hb dL_law_15 rfl hl (by decide) rfl (fun ls hl => ?_)
  refine lv_iconst (v := 1) hx hb dL_law_16 (by decide) ?_
  refine lx_newa (atype := .long) (ty := .long) (N' := 1) (a0 := (1, .inr (.inl (fun _ => 0)))) hx hb hU u_364 rfl hK hP hD hS hA 2 rfl (fun _ h9 => h9) (fun _ => rfl) (by decide) (by decide +kernel) (Nat.le_of_ble_eq_true rfl) (Nat.le_of_ble_eq_true rfl) (Nat.le_of_ble_eq_true rfl) dL_law_17 (fun q_31 H hP hD hS => ?_)
  have hP : va_P G vwCl [(q_1, .inr (10, [.ref x_2, .int 0, .int (-1), .ref x_3, .ref x_4, .ref x_5, .int (-2), .ref x_6, .ref x_7])), (x_2, .inl (cy 0, 400, .inl (fun _ => 0))), (x_3, .inr (0, [.ref x_8, .int 0, .int 0])), (x_8, .inl (cy 4, 56, .inr (.inr (.inr (.inr (fun _ => none)))))), (x_4, .inr (4, [.int 0, .int 0, .int (-1), .ref x_9])), (x_9, .inl (cy 1, 6, .inl (fun _ => 0))), (x_5, .inl (cy 5, 7, .inr (.inr (.inr (.inr (fun _ => none)))))), (x_6, .inr (7, [.ref x_10, .int 0, .int 0])), (x_10, .inl (cy 0, 400, .inl (fun _ => 0))), (x_7, .inr (3, [.ref x_6, .ref x_11, .int 0])), (x_11, .inl (cy 1, 56, .inl (fun _ => 0))), (q_12, .inr (11, [.int 0, .ref x_13, .int 0, .ref x_14, .int 0, .int 0, .int 0, .int 0, .int (-1), .ref x_15, .ref x_16, .int 0, .int 0, .int 0, .ref x_17, .ref x_18, .int 0, .int (-1), .int 0, .int 0, .ref x_19, .ref x_20, .ref x_21, .ref x_22, .int 0, .int 0, .ref x_23, .ref x_24, .int 0, .int 0, .ref x_25, .ref x_26, .ref x_27, .int 0, .int 0, .ref x_28, .ref x_29, .ref x_30])), (x_13, .inl (cy 0, 400, .inl (fun _ => 0))), (x_14, .inl (cy 1, 5, .inl (fun _ => 0))), (x_15, .inl (cy 1, 1232, .inl (fun _ => 0))), (x_16, .inl (cy 1, 1232, .inl (fun _ => 0))), (x_17, .inl (cy 1, 6, .inl (fun _ => 0))), (x_18, .inl (cy 1, 6, .inl (fun _ => 0))), (x_19, .inl (cy 3, 56, .inl (fun _ => 0))), (x_20, .inl (cy 1, 56, .inl (fun _ => 0))), (x_21, .inl (cy 1, 56, .inl (fun _ => 0))), (x_22, .inl (cy 2, 56, .inr (.inl (fun _ => 0)))), (x_23, .inl (cy 1, 4096, .inl (fun _ => 0))), (x_24, .inl (cy 1, 4096, .inl (fun _ => 0))), (x_25, .inl (cy 1, 64, .inl (fun _ => 0))), (x_26, .inl (cy 1, 64, .inl (fun _ => 0))), (x_27, .inl (cy 0, 20000, .inl (fun _ => 0))), (x_28, .inl (cy 1, 56, .inl (fun _ => 0))), (x_29, .inl (cy 0, 20000, .inl (fun _ => 0))), (x_30, .inl (cy 2, 16, .inr (.inl (fun _ => 0)))), (q_31, .inl (cy 2, 1, .inr (.inl (fun _ => 0))))] H := hP
  have hD : va_D (fun q : Nat => s.heap.size ≤ q) [(q_1, .inr (10, [.ref x_2, .int 0, .int (-1), .ref x_3, .ref x_4, .ref x_5, .int (-2), .ref x_6, .ref x_7])), (x_2, .inl (cy 0, 400, .inl (fun _ => 0))), (x_3, .inr (0, [.ref x_8, .int 0, .int 0])), (x_8, .inl (cy 4, 56, .inr (.inr (.inr (.inr (fun _ => none)))))), (x_4, .inr (4, [.int 0, .int 0, .int (-1), .ref x_9])), (x_9, .inl (cy 1, 6, .inl (fun _ => 0))), (x_5, .inl (cy 5, 7, .inr (.inr (.inr (.inr (fun _ => none)))))), (x_6, .inr (7, [.ref x_10, .int 0, .int 0])), (x_10, .inl (cy 0, 400, .inl (fun _ => 0))), (x_7, .inr (3, [.ref x_6, .ref x_11, .int 0])), (x_11, .inl (cy 1, 56, .inl (fun _ => 0))), (q_12, .inr (11, [.int 0, .ref x_13, .int 0, .ref x_14, .int 0, .int 0, .int 0, .int 0, .int (-1), .ref x_15, .ref x_16, .int 0, .int 0, .int 0, .ref x_17, .ref x_18, .int 0, .int (-1), .int 0, .int 0, .ref x_19, .ref x_20, .ref x_21, .ref x_22, .int 0, .int 0, .ref x_23, .ref x_24, .int 0, .int 0, .ref x_25, .ref x_26, .ref x_27, .int 0, .int 0, .ref x_28, .ref x_29, .ref x_30])), (x_13, .inl (cy 0, 400, .inl (fun _ => 0))), (x_14, .inl (cy 1, 5, .inl (fun _ => 0))), (x_15, .inl (cy 1, 1232, .inl (fun _ => 0))), (x_16, .inl (cy 1, 1232, .inl (fun _ => 0))), (x_17, .inl (cy 1, 6, .inl (fun _ => 0))), (x_18, .inl (cy 1, 6, .inl (fun _ => 0))), (x_19, .inl (cy 3, 56, .inl (fun _ => 0))), (x_20, .inl (cy 1, 56, .inl (fun _ => 0))), (x_21, .inl (cy 1, 56, .inl (fun _ => 0))), (x_22, .inl (cy 2, 56, .inr (.inl (fun _ => 0)))), (x_23, .inl (cy 1, 4096, .inl (fun _ => 0))), (x_24, .inl (cy 1, 4096, .inl (fun _ => 0))), (x_25, .inl (cy 1, 64, .inl (fun _ => 0))), (x_26, .inl (cy 1, 64, .inl (fun _ => 0))), (x_27, .inl (cy 0, 20000, .inl (fun _ => 0))), (x_28, .inl (cy 1, 56, .inl (fun _ => 0))), (x_29, .inl (cy 0, 20000, .inl (fun _ => 0))), (x_30, .inl (cy 2, 16, .inr (.inl (fun _ => 0)))), (q_31, .inl (cy 2, 1, .inr (.inl (fun _ => 0))))] := hD
  refine W.widen (k := 31) (n := 52483) (Nat.le_of_ble_eq_true rfl) (Nat.le_of_ble_eq_true rfl) ?_
  refine lv_astore_n (lv' := [(3, .ref q_31), (2, .ref q_12), (1, .ref q_1), (0, .ref b)]) hx hb dL_law_19 rfl hl (by decide) rfl (fun ls hl => ?_)
  refine lv_iconst (v := 0) hx hb dL_law_20 (by decide) ?_
  refine lv_istore (lv' := [(4, .int 0), (3, .ref q_31), (2, .ref q_12), (1, .ref q_1), (0, .ref b)]) hx hb dL_law_21 hl (by decide) rfl (fun ls hl => ?_)
  refine lv_iload hx hb dL_law_23 (lv_at hl 0 rfl) ?_
  refine lv_aload_n hx hb dL_law_25 rfl (lv_at hl 4 rfl) ?_
  refine va_slen hx hb hX hbl hbA hS dL_law_26 ?_
  refine lv_bipush (v := 6) hx hb dL_law_27 (by decide) ?_
  refine lv_isub hx hb dL_law_29 ?_
  by_cases h6 : L = 6
  · subst h6
    refine lx_top (y := 0) (by decide) ?_
    refine lv_icmp_gt (tgt := 2176) hx hb dL_law_30 (by decide) (fun c9 => absurd c9 (by decide)) (fun _ => ?_)
    refine lv_aload_n hx hb dL_law_33 rfl (lv_at hl 4 rfl) ?_
    refine lv_iload hx hb dL_law_34 (lv_at hl 0 rfl) ?_
    refine va_sld hx hb hX hbl hbA hS (lx_in (by decide +kernel)) dL_law_36 ?_
    refine lv_bipush (v := 63) hx hb dL_law_37 (by decide) ?_
    obtain ⟨j, hj, ej⟩ := pk_andE (xs (0 : Int32).toNatClampNeg) (m := 63) 6 (by decide)
    refine lv_iand hx hb dL_law_39 (lx_top (y := nI j) ej ?_)
    rcases (show j = 0 ∨ j = 1 ∨ j = 2 ∨ j = 3 ∨ j = 4 ∨ j = 5 ∨ j = 6 ∨ j = 7 ∨ j = 8 ∨ j = 9 ∨ j = 10 ∨ j = 11 ∨ j = 12 ∨ j = 13 ∨ j = 14 ∨ j = 15 ∨ j = 16 ∨ j = 17 ∨ j = 18 ∨ j = 19 ∨ j = 20 ∨ j = 21 ∨ j = 22 ∨ j = 23 ∨ j = 24 ∨ j = 25 ∨ j = 26 ∨ j = 27 ∨ j = 28 ∨ j = 29 ∨ j = 30 ∨ j = 31 ∨ j = 32 ∨ j = 33 ∨ j = 34 ∨ j = 35 ∨ j = 36 ∨ 37 ≤ j by omega) with rfl | rfl | rfl | rfl | rfl | rfl | rfl | rfl | rfl | rfl | rfl | rfl | rfl | rfl | rfl | rfl | rfl | rfl | rfl | rfl | rfl | rfl | rfl | rfl | rfl | rfl | rfl | rfl | rfl | rfl | rfl | rfl | rfl | rfl | rfl | rfl | rfl | h37
    · exact lv_tableIn (off := 164) (tgt := 204) hx hb dL_law_40 (by decide) (by decide) (by rfl) (by decide) (law_c0 hlst C0 hK hZ hP hD hS (lv_sub hl [0, 1, 2, 3, 4] rfl))
    · exact lv_tableIn (off := 237) (tgt := 277) hx hb dL_law_40 (by decide) (by decide) (by rfl) (by decide) (law_c1 hlst C0 hK hZ hP hD hS (lv_sub hl [0, 1, 2, 3, 4] rfl))
    · exact lv_tableIn (off := 262) (tgt := 302) hx hb dL_law_40 (by decide) (by decide) (by rfl) (by decide) (law_c2 hlst C0 hK hZ hP hD hS (lv_sub hl [0, 1, 2, 3, 4] rfl))
    · exact lv_tableIn (off := 306) (tgt := 346) hx hb dL_law_40 (by decide) (by decide) (by rfl) (by decide) (law_c3 hlst C0 hK hZ hP hD hS (lv_sub hl [0, 1, 2, 3, 4] rfl))
    · exact lv_tableIn (off := 350) (tgt := 390) hx hb dL_law_40 (by decide) (by decide) (by rfl) (by decide) (law_c4 hlst C0 hK hZ hP hD hS (lv_sub hl [0, 1, 2, 3, 4] rfl))
    · exact lv_tableIn (off := 363) (tgt := 403) hx hb dL_law_40 (by decide) (by decide) (by rfl) (by decide) (law_c5 hlst C0 hK hZ hP hD hS (lv_sub hl [0, 1, 2, 3, 4] rfl))
    · exact lv_tableIn (off := 431) (tgt := 471) hx hb dL_law_40 (by decide) (by decide) (by rfl) (by decide) (law_c6 hlst C0 hK hZ hP hD hS (lv_sub hl [0, 1, 2, 3, 4] rfl))
    · exact lv_tableIn (off := 515) (tgt := 555) hx hb dL_law_40 (by decide) (by decide) (by rfl) (by decide) (law_c7 hlst C0 hK hZ hP hD hS (lv_sub hl [0, 1, 2, 3, 4] rfl))
    · exact lv_tableIn (off := 583) (tgt := 623) hx hb dL_law_40 (by decide) (by decide) (by rfl) (by decide) (law_c8 hlst C0 hK hZ hP hD hS (lv_sub hl [0, 1, 2, 3, 4] rfl))
    · exact lv_tableIn (off := 639) (tgt := 679) hx hb dL_law_40 (by decide) (by decide) (by rfl) (by decide) (law_c9 hlst C0 hK hZ hP hD hS (lv_sub hl [0, 1, 2, 3, 4] rfl))
    · exact lv_tableIn (off := 714) (tgt := 754) hx hb dL_law_40 (by decide) (by decide) (by rfl) (by decide) (law_c10 hlst C0 hK hZ hP hD hS (lv_sub hl [0, 1, 2, 3, 4] rfl))
    · exact lv_tableIn (off := 770) (tgt := 810) hx hb dL_law_40 (by decide) (by decide) (by rfl) (by decide) (law_c11 hlst C0 hK hZ hP hD hS (lv_sub hl [0, 1, 2, 3, 4] rfl))
    · exact lv_tableIn (off := 795) (tgt := 835) hx hb dL_law_40 (by decide) (by decide) (by rfl) (by decide) (law_c12 hlst C0 hK hZ hP hD hS (lv_sub hl [0, 1, 2, 3, 4] rfl))
    · exact lv_tableIn (off := 808) (tgt := 848) hx hb dL_law_40 (by decide) (by decide) (by rfl) (by decide) (law_c13 hlst C0 hK hZ hP hD hS (lv_sub hl [0, 1, 2, 3, 4] rfl))
    · exact lv_tableIn (off := 876) (tgt := 916) hx hb dL_law_40 (by decide) (by decide) (by rfl) (by decide) (law_c14 hlst C0 hK hZ hP hD hS (lv_sub hl [0, 1, 2, 3, 4] rfl))
    · exact lv_tableIn (off := 931) (tgt := 971) hx hb dL_law_40 (by decide) (by decide) (by rfl) (by decide) (law_c15 hlst C0 hK hZ hP hD hS (lv_sub hl [0, 1, 2, 3, 4] rfl))
    · exact lv_tableIn (off := 1006) (tgt := 1046) hx hb dL_law_40 (by decide) (by decide) (by rfl) (by decide) (law_c16 hlst C0 hK hZ hP hD hS (lv_sub hl [0, 1, 2, 3, 4] rfl))
    · exact lv_tableIn (off := 1062) (tgt := 1102) hx hb dL_law_40 (by decide) (by decide) (by rfl) (by decide) (law_c17 hlst C0 hK hZ hP hD hS (lv_sub hl [0, 1, 2, 3, 4] rfl))
    · exact lv_tableIn (off := 1118) (tgt := 1158) hx hb dL_law_40 (by decide) (by decide) (by rfl) (by decide) (law_c18 hlst C0 hK hZ hP hD hS (lv_sub hl [0, 1, 2, 3, 4] rfl))
    · exact lv_tableIn (off := 1193) (tgt := 1233) hx hb dL_law_40 (by decide) (by decide) (by rfl) (by decide) (law_c19 hlst C0 hK hZ hP hD hS (lv_sub hl [0, 1, 2, 3, 4] rfl))
    · exact lv_tableIn (off := 1273) (tgt := 1313) hx hb dL_law_40 (by decide) (by decide) (by rfl) (by decide) (law_c20 hlst C0 hK hZ hP hD hS (lv_sub hl [0, 1, 2, 3, 4] rfl))
    · exact lv_tableIn (off := 1341) (tgt := 1381) hx hb dL_law_40 (by decide) (by decide) (by rfl) (by decide) (law_c21 hlst C0 hK hZ hP hD hS (lv_sub hl [0, 1, 2, 3, 4] rfl))
    · exact lv_tableIn (off := 1354) (tgt := 1394) hx hb dL_law_40 (by decide) (by decide) (by rfl) (by decide) (law_c22 hlst C0 hK hZ hP hD hS (lv_sub hl [0, 1, 2, 3, 4] rfl))
    · exact lv_tableIn (off := 1441) (tgt := 1481) hx hb dL_law_40 (by decide) (by decide) (by rfl) (by decide) (law_c23 hlst C0 hK hZ hP hD hS (lv_sub hl [0, 1, 2, 3, 4] rfl))
    · exact lv_tableIn (off := 1497) (tgt := 1537) hx hb dL_law_40 (by decide) (by decide) (by rfl) (by decide) (law_c24 hlst C0 hK hZ hP hD hS (lv_sub hl [0, 1, 2, 3, 4] rfl))
    · exact lv_tableIn (off := 1553) (tgt := 1593) hx hb dL_law_40 (by decide) (by decide) (by rfl) (by decide) (law_c25 hlst C0 hK hZ hP hD hS (lv_sub hl [0, 1, 2, 3, 4] rfl))
    · exact lv_tableIn (off := 1566) (tgt := 1606) hx hb dL_law_40 (by decide) (by decide) (by rfl) (by decide) (law_c26 hlst C0 hK hZ hP hD hS (lv_sub hl [0, 1, 2, 3, 4] rfl))
    · exact lv_tableIn (off := 1622) (tgt := 1662) hx hb dL_law_40 (by decide) (by decide) (by rfl) (by decide) (law_c27 hlst C0 hK hZ hP hD hS (lv_sub hl [0, 1, 2, 3, 4] rfl))
    · exact lv_tableIn (off := 1678) (tgt := 1718) hx hb dL_law_40 (by decide) (by decide) (by rfl) (by decide) (law_c28 hlst C0 hK hZ hP hD hS (lv_sub hl [0, 1, 2, 3, 4] rfl))
    · exact lv_tableIn (off := 1734) (tgt := 1774) hx hb dL_law_40 (by decide) (by decide) (by rfl) (by decide) (law_c29 hlst C0 hK hZ hP hD hS (lv_sub hl [0, 1, 2, 3, 4] rfl))
    · exact lv_tableIn (off := 1759) (tgt := 1799) hx hb dL_law_40 (by decide) (by decide) (by rfl) (by decide) (law_c30 hlst C0 hK hZ hP hD hS (lv_sub hl [0, 1, 2, 3, 4] rfl))
    · exact lv_tableIn (off := 1827) (tgt := 1867) hx hb dL_law_40 (by decide) (by decide) (by rfl) (by decide) (law_c31 hlst C0 hK hZ hP hD hS (lv_sub hl [0, 1, 2, 3, 4] rfl))
    · exact lv_tableIn (off := 1883) (tgt := 1923) hx hb dL_law_40 (by decide) (by decide) (by rfl) (by decide) (law_c32 hlst C0 hK hZ hP hD hS (lv_sub hl [0, 1, 2, 3, 4] rfl))
    · exact lv_tableIn (off := 1924) (tgt := 1964) hx hb dL_law_40 (by decide) (by decide) (by rfl) (by decide) (law_c33 hlst C0 hK hZ hP hD hS (lv_sub hl [0, 1, 2, 3, 4] rfl))
    · exact lv_tableIn (off := 1980) (tgt := 2020) hx hb dL_law_40 (by decide) (by decide) (by rfl) (by decide) (law_c34 hlst C0 hK hZ hP hD hS (lv_sub hl [0, 1, 2, 3, 4] rfl))
    · exact lv_tableIn (off := 2021) (tgt := 2061) hx hb dL_law_40 (by decide) (by decide) (by rfl) (by decide) (law_c35 hlst C0 hK hZ hP hD hS (lv_sub hl [0, 1, 2, 3, 4] rfl))
    · exact lv_tableIn (off := 2105) (tgt := 2145) hx hb dL_law_40 (by decide) (by decide) (by rfl) (by decide) (law_c36 hlst C0 hK hZ hP hD hS (lv_sub hl [0, 1, 2, 3, 4] rfl))
    · exact lv_tableOut (tgt := 2170) hx hb dL_law_40 (Or.inr (by rw [nI_toInt (by omega)]; omega)) (by decide) (law_end C0 hS (lv_sub hl [0, 4] rfl) (Nat.le_of_ble_eq_true rfl) (Nat.le_of_ble_eq_true rfl))
  · have hlt : (Int32.ofNat L - 6 : Int32) < 0 := pk_sneg (a := L) (b := 6) (by decide) (by omega)
    refine lv_icmp_gt (tgt := 2176) hx hb dL_law_30 (by decide) (fun _ => ?_) (fun c9 => absurd hlt c9)
    refine lv_iconst (v := 1) hx hb dL_law_2176 (by decide) ?_
    refine va_forget (fun q hq => hS.2.2 q hq) ?_
    refine W.widen (k := 600002) (n := 7302232) (Nat.le_of_ble_eq_true rfl) (Nat.le_of_ble_eq_true rfl) ?_
    exact lw_ret hx hb hr hlocks dL_law_2177
