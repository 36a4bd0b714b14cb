theorem wrong_1 (u : RS) (kd wh : Int32) : (f_wrong u kd wh).1 = 0 := rfl
theorem cant_1 (u : RS) : (f_cant u).1 = 0 := by rw [f_cant_s]; split <;> rfl
theorem cant_2 (u : RS) : ∃ kd : Int32, (f_cant u).2 = sg (sg u 27 kd) 28 (u.1 25) := by
  rw [f_cant_s]
  split
  · exact ⟨1, rfl⟩
  · exact ⟨2, rfl⟩
theorem ix_add8 {x : Int32} (h : ixN x 8) : vp_in (8 + x) 16 := by
  obtain ⟨j, hj, rfl⟩ := h
  have e : (8 : Int32) + nI j = nI (8 + j) := nI_add 8 j
  rw [e]
  exact vp_in_nI (by omega) (by omega)
theorem at_add8 {x : Int32} (h : ixN x 8) : (8 + x).toNatClampNeg < 16 := by
  obtain ⟨j, hj, rfl⟩ := h
  have e : (8 : Int32) + nI j = nI (8 + j) := nI_add 8 j
  rw [e, nI_clamp (by omega)]
  omega
theorem ix_span {x y : Int32} (h : ixN x 8) (g : ixN y 12) : vp_in (96 + 12 * x + y) 192 := by
  obtain ⟨i, hi, rfl⟩ := h
  obtain ⟨j, hj, rfl⟩ := g
  have e : (96 : Int32) + 12 * nI i + nI j = nI (96 + 12 * i + j) := by
    have e1 : (12 : Int32) * nI i = nI (12 * i) := pk_mul 12 i
    have e2 : (96 : Int32) + nI (12 * i) = nI (96 + 12 * i) := nI_add 96 _
    rw [e1, e2, nI_add]
  rw [e]
  exact vp_in_nI (by omega) (by omega)
theorem ixN_ne {x : Int32} (h : ixN x 13) (hn : ¬ x = 12) : ixN x 12 := by
  obtain ⟨j, hj, rfl⟩ := h
  refine ⟨j, ?_, rfl⟩
  rcases Nat.lt_or_ge j 12 with h1 | h1
  · exact h1
  · have : j = 12 := by omega
    subst this
    exact absurd rfl hn
theorem ixN_le7 {x : Int32} {n : Nat} (h : ixN x n) (hn : n < 2 ^ 31) (h7 : x ≤ 7) : ixN x 8 := by
  obtain ⟨j, hj, rfl⟩ := h
  have e : (7 : Int32) = nI 7 := rfl
  rw [e, nI_leI (by omega) (by decide)] at h7
  exact ⟨j, by omega, rfl⟩
def f_span (u : RS) (bar : Int32) : Int32 × RS := (if (f_next u).1 24 = 2 then (if (f_next u).1 26 ≤ 1440 then (if bar = 0 then (if 2 ≤ (f_next u).1 26 then (if (f_next u).1 26 ≤ 1438 then (1, (sa (sa (sa (f_next (f_next u)) 20 (((96 + (12 * ((f_next (f_next u)).1 29))) + ((f_next (f_next u)).2.2 22 ((8 + ((f_next (f_next u)).1 29)).toNatClampNeg))).toNatClampNeg) (((f_next u).1 26) - 2)) 21 (((96 + (12 * ((f_next (f_next u)).1 29))) + ((f_next (f_next u)).2.2 22 ((8 + ((f_next (f_next u)).1 29)).toNatClampNeg))).toNatClampNeg) (((f_next u).1 26) + 2)) 22 ((8 + ((f_next (f_next u)).1 29)).toNatClampNeg) (((f_next (f_next u)).2.2 22 ((8 + ((f_next (f_next u)).1 29)).toNatClampNeg)) + 1))) else (1, (sa (sa (sa (f_next (f_next u)) 20 (((96 + (12 * ((f_next (f_next u)).1 29))) + ((f_next (f_next u)).2.2 22 ((8 + ((f_next (f_next u)).1 29)).toNatClampNeg))).toNatClampNeg) (((f_next u).1 26) - 2)) 21 (((96 + (12 * ((f_next (f_next u)).1 29))) + ((f_next (f_next u)).2.2 22 ((8 + ((f_next (f_next u)).1 29)).toNatClampNeg))).toNatClampNeg) 1440) 22 ((8 + ((f_next (f_next u)).1 29)).toNatClampNeg) (((f_next (f_next u)).2.2 22 ((8 + ((f_next (f_next u)).1 29)).toNatClampNeg)) + 1)))) else (if (f_next u).1 26 ≤ 1438 then (1, (sa (sa (sa (f_next (f_next u)) 20 (((96 + (12 * ((f_next (f_next u)).1 29))) + ((f_next (f_next u)).2.2 22 ((8 + ((f_next (f_next u)).1 29)).toNatClampNeg))).toNatClampNeg) 0) 21 (((96 + (12 * ((f_next (f_next u)).1 29))) + ((f_next (f_next u)).2.2 22 ((8 + ((f_next (f_next u)).1 29)).toNatClampNeg))).toNatClampNeg) (((f_next u).1 26) + 2)) 22 ((8 + ((f_next (f_next u)).1 29)).toNatClampNeg) (((f_next (f_next u)).2.2 22 ((8 + ((f_next (f_next u)).1 29)).toNatClampNeg)) + 1))) else (1, (sa (sa (sa (f_next (f_next u)) 20 (((96 + (12 * ((f_next (f_next u)).1 29))) + ((f_next (f_next u)).2.2 22 ((8 + ((f_next (f_next u)).1 29)).toNatClampNeg))).toNatClampNeg) 0) 21 (((96 + (12 * ((f_next (f_next u)).1 29))) + ((f_next (f_next u)).2.2 22 ((8 + ((f_next (f_next u)).1 29)).toNatClampNeg))).toNatClampNeg) 1440) 22 ((8 + ((f_next (f_next u)).1 29)).toNatClampNeg) (((f_next (f_next u)).2.2 22 ((8 + ((f_next (f_next u)).1 29)).toNatClampNeg)) + 1))))) else (if f_isWord (f_next (f_next u)) 29807 = 0 then ((f_cant (f_next (f_next u))).1, (f_cant (f_next (f_next u))).2) else (if (f_next (f_next (f_next u))).1 24 = 2 then (if (f_next (f_next (f_next u))).1 26 ≤ (f_next u).1 26 then ((f_wrong (f_next (f_next (f_next u))) 3 ((f_next (f_next (f_next u))).1 25)).1, (f_wrong (f_next (f_next (f_next u))) 3 ((f_next (f_next (f_next u))).1 25)).2) else (if (f_next (f_next (f_next u))).1 26 ≤ 1440 then (1, (sa (sa (sa (f_next (f_next (f_next (f_next u)))) 20 (((96 + (12 * ((f_next (f_next (f_next (f_next u)))).1 29))) + ((f_next (f_next (f_next (f_next u)))).2.2 22 ((8 + ((f_next (f_next (f_next (f_next u)))).1 29)).toNatClampNeg))).toNatClampNeg) ((f_next u).1 26)) 21 (((96 + (12 * ((f_next (f_next (f_next (f_next u)))).1 29))) + ((f_next (f_next (f_next (f_next u)))).2.2 22 ((8 + ((f_next (f_next (f_next (f_next u)))).1 29)).toNatClampNeg))).toNatClampNeg) (((f_next (f_next (f_next u))).1 26) - 1)) 22 ((8 + ((f_next (f_next (f_next (f_next u)))).1 29)).toNatClampNeg) (((f_next (f_next (f_next (f_next u)))).2.2 22 ((8 + ((f_next (f_next (f_next (f_next u)))).1 29)).toNatClampNeg)) + 1))) else ((f_wrong (f_next (f_next (f_next u))) 3 ((f_next (f_next (f_next u))).1 25)).1, (f_wrong (f_next (f_next (f_next u))) 3 ((f_next (f_next (f_next u))).1 25)).2))) else ((f_cant (f_next (f_next (f_next u)))).1, (f_cant (f_next (f_next (f_next u)))).2)))) else ((f_wrong (f_next u) 3 ((f_next u).1 25)).1, (f_wrong (f_next u) 3 ((f_next u).1 25)).2)) else ((f_cant (f_next u)).1, (f_cant (f_next u)).2))
theorem f_span_s (u : RS) (bar : Int32) : f_span u bar = (if (f_next u).1 24 = 2 then (if (f_next u).1 26 ≤ 1440 then (if bar = 0 then (if 2 ≤ (f_next u).1 26 then (if (f_next u).1 26 ≤ 1438 then (1, (sa (sa (sa (f_next (f_next u)) 20 (((96 + (12 * ((f_next (f_next u)).1 29))) + ((f_next (f_next u)).2.2 22 ((8 + ((f_next (f_next u)).1 29)).toNatClampNeg))).toNatClampNeg) (((f_next u).1 26) - 2)) 21 (((96 + (12 * ((f_next (f_next u)).1 29))) + ((f_next (f_next u)).2.2 22 ((8 + ((f_next (f_next u)).1 29)).toNatClampNeg))).toNatClampNeg) (((f_next u).1 26) + 2)) 22 ((8 + ((f_next (f_next u)).1 29)).toNatClampNeg) (((f_next (f_next u)).2.2 22 ((8 + ((f_next (f_next u)).1 29)).toNatClampNeg)) + 1))) else (1, (sa (sa (sa (f_next (f_next u)) 20 (((96 + (12 * ((f_next (f_next u)).1 29))) + ((f_next (f_next u)).2.2 22 ((8 + ((f_next (f_next u)).1 29)).toNatClampNeg))).toNatClampNeg) (((f_next u).1 26) - 2)) 21 (((96 + (12 * ((f_next (f_next u)).1 29))) + ((f_next (f_next u)).2.2 22 ((8 + ((f_next (f_next u)).1 29)).toNatClampNeg))).toNatClampNeg) 1440) 22 ((8 + ((f_next (f_next u)).1 29)).toNatClampNeg) (((f_next (f_next u)).2.2 22 ((8 + ((f_next (f_next u)).1 29)).toNatClampNeg)) + 1)))) else (if (f_next u).1 26 ≤ 1438 then (1, (sa (sa (sa (f_next (f_next u)) 20 (((96 + (12 * ((f_next (f_next u)).1 29))) + ((f_next (f_next u)).2.2 22 ((8 + ((f_next (f_next u)).1 29)).toNatClampNeg))).toNatClampNeg) 0) 21 (((96 + (12 * ((f_next (f_next u)).1 29))) + ((f_next (f_next u)).2.2 22 ((8 + ((f_next (f_next u)).1 29)).toNatClampNeg))).toNatClampNeg) (((f_next u).1 26) + 2)) 22 ((8 + ((f_next (f_next u)).1 29)).toNatClampNeg) (((f_next (f_next u)).2.2 22 ((8 + ((f_next (f_next u)).1 29)).toNatClampNeg)) + 1))) else (1, (sa (sa (sa (f_next (f_next u)) 20 (((96 + (12 * ((f_next (f_next u)).1 29))) + ((f_next (f_next u)).2.2 22 ((8 + ((f_next (f_next u)).1 29)).toNatClampNeg))).toNatClampNeg) 0) 21 (((96 + (12 * ((f_next (f_next u)).1 29))) + ((f_next (f_next u)).2.2 22 ((8 + ((f_next (f_next u)).1 29)).toNatClampNeg))).toNatClampNeg) 1440) 22 ((8 + ((f_next (f_next u)).1 29)).toNatClampNeg) (((f_next (f_next u)).2.2 22 ((8 + ((f_next (f_next u)).1 29)).toNatClampNeg)) + 1))))) else (if f_isWord (f_next (f_next u)) 29807 = 0 then ((f_cant (f_next (f_next u))).1, (f_cant (f_next (f_next u))).2) else (if (f_next (f_next (f_next u))).1 24 = 2 then (if (f_next (f_next (f_next u))).1 26 ≤ (f_next u).1 26 then ((f_wrong (f_next (f_next (f_next u))) 3 ((f_next (f_next (f_next u))).1 25)).1, (f_wrong (f_next (f_next (f_next u))) 3 ((f_next (f_next (f_next u))).1 25)).2) else (if (f_next (f_next (f_next u))).1 26 ≤ 1440 then (1, (sa (sa (sa (f_next (f_next (f_next (f_next u)))) 20 (((96 + (12 * ((f_next (f_next (f_next (f_next u)))).1 29))) + ((f_next (f_next (f_next (f_next u)))).2.2 22 ((8 + ((f_next (f_next (f_next (f_next u)))).1 29)).toNatClampNeg))).toNatClampNeg) ((f_next u).1 26)) 21 (((96 + (12 * ((f_next (f_next (f_next (f_next u)))).1 29))) + ((f_next (f_next (f_next (f_next u)))).2.2 22 ((8 + ((f_next (f_next (f_next (f_next u)))).1 29)).toNatClampNeg))).toNatClampNeg) (((f_next (f_next (f_next u))).1 26) - 1)) 22 ((8 + ((f_next (f_next (f_next (f_next u)))).1 29)).toNatClampNeg) (((f_next (f_next (f_next (f_next u)))).2.2 22 ((8 + ((f_next (f_next (f_next (f_next u)))).1 29)).toNatClampNeg)) + 1))) else ((f_wrong (f_next (f_next (f_next u))) 3 ((f_next (f_next (f_next u))).1 25)).1, (f_wrong (f_next (f_next (f_next u))) 3 ((f_next (f_next (f_next u))).1 25)).2))) else ((f_cant (f_next (f_next (f_next u)))).1, (f_cant (f_next (f_next (f_next u)))).2)))) else ((f_wrong (f_next u) 3 ((f_next u).1 25)).1, (f_wrong (f_next u) 3 ((f_next u).1 25)).2)) else ((f_cant (f_next u)).1, (f_cant (f_next u)).2)) := rfl
theorem im_X9_span_X9 : ∀ w ∈ wsX90, w ∈ wsX9_span := fun _ h => List.mem_cons_of_mem _ (List.mem_append_right _ h)
set_option maxHeartbeats 400000 in
set_option maxRecDepth 100000 in
theorem m_span (l : Launch) (D : va_G) (cI cZ cB cO cJ : ClassId) (a0 sz : Nat) (a : Nat → Nat) (zt : Nat) (u : RS) (bar : Int32) (hT : TI zt u) (hof : ixN (u.1 29) 8) (hsp : ixN (u.2.2 22 (8 + u.1 29).toNatClampNeg) 12) : Met l yX9_span wsX9_span ({ frames := 2, cells := 0, slots := 0, locals := 44 }) (Pcs D cI cZ cB cO cJ a0 [.ref (a 45), .int bar] (WM cI cZ cB a u) sz) (va_Qi (fun (r : Int32) (_ : Unit) => r = (f_span u bar).1) (fun (_ : Unit) t => va_P D vwCl (WM cI cZ cB a (f_span u bar).2) t.heap ∧ va_D (va_A (WM cI cZ cB a u) sz) (WM cI cZ cB a (f_span u bar).2)) (va_A (WM cI cZ cB a u) sz)) 0 0 (va_A (WM cI cZ cB a u) sz) := by
  refine Met.ofW (cc := cX9_span) (maxL := 5) (ret := (some .boolean)) (by decide) rfl ?_
  intro p e s m args below meth c s₁ B hml hv
  obtain ⟨rfl, hsz, hP, hE, hD0, hZ⟩ := hv
  have hx := B.exec
  have hb := B.bytes
  have hr := B.returns
  have hts := atoms_spec (ws := wsX9_span) B.pre
  have hown : s.vm.findClass RX9 = some m.cls := findClass_of_methodNamed B.named
  have hlocks := B.notSynchronized
  subst hsz
  have hD := hD0.self (sz := s.heap.size)
  generalize hAe : va_A (WM cI cZ cB a u) s.heap.size = A at hD hZ ⊢
  have hA : ∀ q : Nat, s.heap.size ≤ q → A q := fun q h => by rw [← hAe]; exact Or.inr h
  clear hAe
  have hS : va_S A s.heap s.heap [] := va_S.rf
  have hP : va_P D vwCl (WM cI cZ cB a u) s.heap := hP
  have hl := lv_entry ([.ref (a 45), .int bar]) (n := 5) (Nat.le_of_ble_eq_true rfl)
  rw [lg_entry_eq]
  generalize (lg_sl ([.ref (a 45), .int bar]) ++ List.replicate (5 - (lg_sl ([.ref (a 45), .int bar])).length) Slot.unset).toArray = ls at hl ⊢
  have hl : lv_has ls 5 [(0, .ref (a 45)), (1, .int bar)] := hl
  have hf := f_span_s u bar
  refine lv_aload_n hx hb dX9_span_0 rfl (lv_at hl 0 rfl) ?_
  refine sf_callv (va_runV (As := []) (rest := []) ⟨hx, hb, hml, hown, hts⟩ (m_next l D cI cZ cB cO cJ a0 s.heap.size a _  u  (hT)) (cwV 0 hts gX9_span_X9_next rfl rfl rfl (by decide +kernel) ⟨Nat.le_of_ble_eq_true rfl, Nat.le_of_ble_eq_true rfl⟩) (preV_full hE hZ hA hS hP hD (va_recv hE.1 hP (ci := 10) (q0 := 0) rfl rfl)) rfl rfl hl.1 rfl (lv_room (Nat.le_of_ble_eq_true rfl)) dX9_span_1 ⟨Nat.le_of_ble_eq_true rfl, Nat.le_of_ble_eq_true rfl⟩) hP hD hS hA (fun u9 H locs hw hP hD hS => ?_)
  have hP : va_P D vwCl (WM cI cZ cB a (f_next u)) H := hP
  have hD : va_D A (WM cI cZ cB a (f_next u)) := hD
  have hn1 := next_na hT
  generalize ev1 : f_next u = v1 at hP hD hf hn1 ⊢
  refine lv_aload_n hx hb dX9_span_4 rfl (lv_at hl 0 rfl) ?_
  refine va_get (D := D) (ci := 10) (v := .int (v1.1 24)) (C := RX9) (T := TX9) (N := 45) hx hb hts im_X9_span_X9 hown hE.1 hP 0 rfl rfl 24 (by decide) (hts (.fieldLink RX9 143 "RiverBridgesModel" "token" "I") (by decide +kernel)) (fun _ h9 => h9) rfl dX9_span_5 ?_
  refine lv_iconst (v := 2) hx hb dX9_span_8 (by decide) ?_
  refine lv_icmp_eq (tgt := 17) hx hb dX9_span_9 (by decide) (fun c2 => ?_) (fun c2 => ?_)
  · replace hf := hf.trans (if_pos c2)
    refine lv_aload_n hx hb dX9_span_17 rfl (lv_at hl 0 rfl) ?_
    refine va_get (D := D) (ci := 10) (v := .int (v1.1 26)) (C := RX9) (T := TX9) (N := 45) hx hb hts im_X9_span_X9 hown hE.1 hP 0 rfl rfl 26 (by decide) (hts (.fieldLink RX9 157 "RiverBridgesModel" "number" "I") (by decide +kernel)) (fun _ h9 => h9) rfl dX9_span_18 ?_
    refine lv_sipush (v := 1440) hx hb dX9_span_21 (by decide) ?_
    refine lv_icmp_le (tgt := 37) hx hb dX9_span_24 (by decide) (fun c3 => ?_) (fun c3 => ?_)
    · replace hf := hf.trans (if_pos c3)
      refine lv_aload_n hx hb dX9_span_37 rfl (lv_at hl 0 rfl) ?_
      refine va_get (D := D) (ci := 10) (v := .int (v1.1 26)) (C := RX9) (T := TX9) (N := 45) hx hb hts im_X9_span_X9 hown hE.1 hP 0 rfl rfl 26 (by decide) (hts (.fieldLink RX9 157 "RiverBridgesModel" "number" "I") (by decide +kernel)) (fun _ h9 => h9) rfl dX9_span_38 ?_
      refine lv_istore_n (lv' := [(2, .int (v1.1 26)), (0, .ref (a 45)), (1, .int bar)]) hx hb dX9_span_41 rfl hl (by decide) rfl (fun ls hl => ?_)
      refine lv_aload_n hx hb dX9_span_42 rfl (lv_at hl 1 rfl) ?_
      refine va_get (D := D) (ci := 10) (v := .int (v1.1 26)) (C := RX9) (T := TX9) (N := 45) hx hb hts im_X9_span_X9 hown hE.1 hP 0 rfl rfl 26 (by decide) (hts (.fieldLink RX9 157 "RiverBridgesModel" "number" "I") (by decide +kernel)) (fun _ h9 => h9) rfl dX9_span_43 ?_
      refine lv_istore_n (lv' := [(3, .int (v1.1 26)), (2, .int (v1.1 26)), (0, .ref (a 45)), (1, .int bar)]) hx hb dX9_span_46 rfl hl (by decide) rfl (fun ls hl => ?_)
      refine lv_aload_n hx hb dX9_span_47 rfl (lv_at hl 2 rfl) ?_
      refine sf_callv (va_runV (As := []) (rest := []) ⟨hx, hb, hml, hown, hts⟩ (m_next l D cI cZ cB cO cJ a0 H.size a _  v1  (hn1.1)) (cwV 0 hts gX9_span_X9_next rfl rfl rfl (by decide +kernel) ⟨Nat.le_of_ble_eq_true rfl, Nat.le_of_ble_eq_true rfl⟩) (preV_full hE hZ hA hS hP hD (va_recv hE.1 hP (ci := 10) (q0 := 0) rfl rfl)) rfl rfl hl.1 rfl (lv_room (Nat.le_of_ble_eq_true rfl)) dX9_span_48 ⟨Nat.le_of_ble_eq_true rfl, Nat.le_of_ble_eq_true rfl⟩) hP hD hS hA (fun u9 H locs hw hP hD hS => ?_)
      have hP : va_P D vwCl (WM cI cZ cB a (f_next v1)) H := hP
      have hD : va_D A (WM cI cZ cB a (f_next v1)) := hD
      have hn2 := next_na hn1.1
      generalize ev4 : f_next v1 = v4 at hP hD hf hn2 ⊢
      refine lv_iload_n hx hb dX9_span_51 rfl (lv_at hl 3 rfl) ?_
      refine lv_if_eq (tgt := 124) hx hb dX9_span_52 (by decide) (fun cb => ?_) (fun cb => ?_)
      · replace hf := hf.trans (if_pos cb)
        have hv : NX u v4 := hn1.2.1.tr hn2.2.1
        have ho9 : ixN (v4.1 29) 8 := by rw [hv.2 29 (by decide) (by decide) (by decide) (by decide)]; exact hof
        have hs9 : ixN (v4.2.2 22 (8 + v4.1 29).toNatClampNeg) 12 := by rw [hv.1, hv.2 29 (by decide) (by decide) (by decide) (by decide)]; exact hsp
        have ia := ix_add8 ho9
        have ib := ix_span ho9 hs9
        refine lv_bipush (v := 96) hx hb dX9_span_124 (by decide) ?_
        refine lv_bipush (v := 12) hx hb dX9_span_126 (by decide) ?_
        refine lv_aload_n hx hb dX9_span_128 rfl (lv_at hl 2 rfl) ?_
        refine va_get (D := D) (ci := 10) (v := .int (v4.1 29)) (C := RX9) (T := TX9) (N := 45) hx hb hts im_X9_span_X9 hown hE.1 hP 0 rfl rfl 29 (by decide) (hts (.fieldLink RX9 189 "RiverBridgesModel" "of" "I") (by decide +kernel)) (fun _ h9 => h9) rfl dX9_span_129 ?_
        refine lx_imul (v := 12 * (v4.1 29)) hx hb (rfl) dX9_span_132 ?_
        refine lx_iadd (v := 96 + (12 * (v4.1 29))) hx hb (rfl) dX9_span_133 ?_
        refine lv_aload_n hx hb dX9_span_134 rfl (lv_at hl 2 rfl) ?_
        refine va_get (D := D) (ci := 10) (v := .ref (a 22)) (C := RX9) (T := TX9) (N := 45) hx hb hts im_X9_span_X9 hown hE.1 hP 0 rfl rfl 22 (by decide) (hts (.fieldLink RX9 60 "RiverBridgesModel" "spans" "[I") (by decide +kernel)) (fun _ h9 => h9) rfl dX9_span_135 ?_
        refine lv_bipush (v := 8) hx hb dX9_span_138 (by decide) ?_
        refine lv_aload_n hx hb dX9_span_140 rfl (lv_at hl 2 rfl) ?_
        refine va_get (D := D) (ci := 10) (v := .int (v4.1 29)) (C := RX9) (T := TX9) (N := 45) hx hb hts im_X9_span_X9 hown hE.1 hP 0 rfl rfl 29 (by decide) (hts (.fieldLink RX9 189 "RiverBridgesModel" "of" "I") (by decide +kernel)) (fun _ h9 => h9) rfl dX9_span_141 ?_
        refine lx_iadd (v := 8 + (v4.1 29)) hx hb (rfl) dX9_span_144 ?_
        refine lx_iald (v := v4.2.2 22 ((8 + (v4.1 29)).toNatClampNeg)) hx hb hE.1 hP 16 0 rfl rfl (by assumption) (rfl) dX9_span_145 ?_
        refine lx_iadd (v := (96 + (12 * (v4.1 29))) + (v4.2.2 22 ((8 + (v4.1 29)).toNatClampNeg))) hx hb (rfl) dX9_span_146 ?_
        refine lv_istore (lv' := [(4, .int ((96 + (12 * (v4.1 29))) + (v4.2.2 22 ((8 + (v4.1 29)).toNatClampNeg)))), (3, .int (v1.1 26)), (2, .int (v1.1 26)), (0, .ref (a 45)), (1, .int bar)]) hx hb dX9_span_147 hl (by decide) rfl (fun ls hl => ?_)
        refine lv_aload_n hx hb dX9_span_149 rfl (lv_at hl 3 rfl) ?_
        refine va_get (D := D) (ci := 10) (v := .ref (a 20)) (C := RX9) (T := TX9) (N := 45) hx hb hts im_X9_span_X9 hown hE.1 hP 0 rfl rfl 20 (by decide) (hts (.fieldLink RX9 54 "RiverBridgesModel" "spanFrom" "[I") (by decide +kernel)) (fun _ h9 => h9) rfl dX9_span_150 ?_
        refine lv_iload hx hb dX9_span_153 (lv_at hl 0 rfl) ?_
        refine lv_iload_n hx hb dX9_span_155 rfl (lv_at hl 4 rfl) ?_
        refine lv_if_eq (tgt := 163) hx hb dX9_span_156 (by decide) (fun _ => ?_) (fun c9 => absurd (cb) c9)
        refine lv_iload_n hx hb dX9_span_163 rfl (lv_at hl 2 rfl) ?_
        refine lv_iconst (v := 2) hx hb dX9_span_164 (by decide) ?_
        refine lv_icmp_ge (tgt := 172) hx hb dX9_span_165 (by decide) (fun c5 => ?_) (fun c5 => ?_)
        · replace hf := hf.trans (if_pos c5)
          refine lv_iload_n hx hb dX9_span_172 rfl (lv_at hl 2 rfl) ?_
          refine lv_iconst (v := 2) hx hb dX9_span_173 (by decide) ?_
          refine lx_isub (v := (v1.1 26) - 2) hx hb (rfl) dX9_span_174 ?_
          refine lx_iast (g := upd (v4.2.2 20) (((96 + (12 * (v4.1 29))) + (v4.2.2 22 ((8 + (v4.1 29)).toNatClampNeg))).toNatClampNeg) ((v1.1 26) - 2)) hx hb hE.1 hP hD hS 14 0 rfl rfl (by assumption) (rfl) dX9_span_175 (fun H locs hP hD hS => ?_)
          have hP := va_P_eq (WM_a20 cI cZ cB a v4 (((96 + (12 * (v4.1 29))) + (v4.2.2 22 ((8 + (v4.1 29)).toNatClampNeg))).toNatClampNeg) ((v1.1 26) - 2)) hP
          have hD := va_D_eq (WM_a20 cI cZ cB a v4 (((96 + (12 * (v4.1 29))) + (v4.2.2 22 ((8 + (v4.1 29)).toNatClampNeg))).toNatClampNeg) ((v1.1 26) - 2)) hD
          refine lv_aload_n hx hb dX9_span_176 rfl (lv_at hl 3 rfl) ?_
          refine va_get (D := D) (ci := 10) (v := .ref (a 21)) (C := RX9) (T := TX9) (N := 45) hx hb hts im_X9_span_X9 hown hE.1 hP 0 rfl rfl 21 (by decide) (hts (.fieldLink RX9 57 "RiverBridgesModel" "spanTo" "[I") (by decide +kernel)) (fun _ h9 => h9) rfl dX9_span_177 ?_
          refine lv_iload hx hb dX9_span_180 (lv_at hl 0 rfl) ?_
          refine lv_iload_n hx hb dX9_span_182 rfl (lv_at hl 4 rfl) ?_
          refine lv_if_eq (tgt := 192) hx hb dX9_span_183 (by decide) (fun _ => ?_) (fun c9 => absurd (cb) c9)
          refine lv_iload_n hx hb dX9_span_192 rfl (lv_at hl 2 rfl) ?_
          refine lv_sipush (v := 1438) hx hb dX9_span_193 (by decide) ?_
          refine lv_icmp_le (tgt := 205) hx hb dX9_span_196 (by decide) (fun c6 => ?_) (fun c6 => ?_)
          · replace hf := hf.trans (if_pos c6)
            refine lv_iload_n hx hb dX9_span_205 rfl (lv_at hl 2 rfl) ?_
            refine lv_iconst (v := 2) hx hb dX9_span_206 (by decide) ?_
            refine lx_iadd (v := (v1.1 26) + 2) hx hb (rfl) dX9_span_207 ?_
            refine lx_iast (g := upd (v4.2.2 21) (((96 + (12 * (v4.1 29))) + (v4.2.2 22 ((8 + (v4.1 29)).toNatClampNeg))).toNatClampNeg) ((v1.1 26) + 2)) hx hb hE.1 hP hD hS 15 0 rfl rfl (by assumption) (rfl) dX9_span_208 (fun H locs hP hD hS => ?_)
            have hP := va_P_eq (WM_a21 cI cZ cB a (sa v4 20 (((96 + (12 * (v4.1 29))) + (v4.2.2 22 ((8 + (v4.1 29)).toNatClampNeg))).toNatClampNeg) ((v1.1 26) - 2)) (((96 + (12 * (v4.1 29))) + (v4.2.2 22 ((8 + (v4.1 29)).toNatClampNeg))).toNatClampNeg) ((v1.1 26) + 2)) hP
            have hD := va_D_eq (WM_a21 cI cZ cB a (sa v4 20 (((96 + (12 * (v4.1 29))) + (v4.2.2 22 ((8 + (v4.1 29)).toNatClampNeg))).toNatClampNeg) ((v1.1 26) - 2)) (((96 + (12 * (v4.1 29))) + (v4.2.2 22 ((8 + (v4.1 29)).toNatClampNeg))).toNatClampNeg) ((v1.1 26) + 2)) hD
            refine lv_aload_n hx hb dX9_span_209 rfl (lv_at hl 3 rfl) ?_
            refine va_get (D := D) (ci := 10) (v := .ref (a 22)) (C := RX9) (T := TX9) (N := 45) hx hb hts im_X9_span_X9 hown hE.1 hP 0 rfl rfl 22 (by decide) (hts (.fieldLink RX9 60 "RiverBridgesModel" "spans" "[I") (by decide +kernel)) (fun _ h9 => h9) rfl dX9_span_210 ?_
            refine lv_bipush (v := 8) hx hb dX9_span_213 (by decide) ?_
            refine lv_aload_n hx hb dX9_span_215 rfl (lv_at hl 3 rfl) ?_
            refine va_get (D := D) (ci := 10) (v := .int (v4.1 29)) (C := RX9) (T := TX9) (N := 45) hx hb hts im_X9_span_X9 hown hE.1 hP 0 rfl rfl 29 (by decide) (hts (.fieldLink RX9 189 "RiverBridgesModel" "of" "I") (by decide +kernel)) (fun _ h9 => h9) rfl dX9_span_216 ?_
            refine lx_iadd (v := 8 + (v4.1 29)) hx hb (rfl) dX9_span_219 ?_
            refine lv_dup2_11 hx hb dX9_span_220 rfl rfl ?_
            refine lx_iald (v := v4.2.2 22 ((8 + (v4.1 29)).toNatClampNeg)) hx hb hE.1 hP 16 0 rfl rfl (by assumption) (rfl) dX9_span_221 ?_
            refine lv_iconst (v := 1) hx hb dX9_span_222 (by decide) ?_
            refine lx_iadd (v := (v4.2.2 22 ((8 + (v4.1 29)).toNatClampNeg)) + 1) hx hb (rfl) dX9_span_223 ?_
            refine lx_iast (g := upd (v4.2.2 22) ((8 + (v4.1 29)).toNatClampNeg) ((v4.2.2 22 ((8 + (v4.1 29)).toNatClampNeg)) + 1)) hx hb hE.1 hP hD hS 16 0 rfl rfl (by assumption) (rfl) dX9_span_224 (fun H locs hP hD hS => ?_)
            have hP := va_P_eq (WM_a22 cI cZ cB a (sa (sa v4 20 (((96 + (12 * (v4.1 29))) + (v4.2.2 22 ((8 + (v4.1 29)).toNatClampNeg))).toNatClampNeg) ((v1.1 26) - 2)) 21 (((96 + (12 * (v4.1 29))) + (v4.2.2 22 ((8 + (v4.1 29)).toNatClampNeg))).toNatClampNeg) ((v1.1 26) + 2)) ((8 + (v4.1 29)).toNatClampNeg) ((v4.2.2 22 ((8 + (v4.1 29)).toNatClampNeg)) + 1)) hP
            have hD := va_D_eq (WM_a22 cI cZ cB a (sa (sa v4 20 (((96 + (12 * (v4.1 29))) + (v4.2.2 22 ((8 + (v4.1 29)).toNatClampNeg))).toNatClampNeg) ((v1.1 26) - 2)) 21 (((96 + (12 * (v4.1 29))) + (v4.2.2 22 ((8 + (v4.1 29)).toNatClampNeg))).toNatClampNeg) ((v1.1 26) + 2)) ((8 + (v4.1 29)).toNatClampNeg) ((v4.2.2 22 ((8 + (v4.1 29)).toNatClampNeg)) + 1)) hD
            refine lv_iconst (v := 1) hx hb dX9_span_225 (by decide) ?_
            exact ss_zret () hx hb hr hlocks (by decide) (by rw [hf]; exact hP) (by rw [hf]; exact hD) hS (by rw [hf]) (Nat.le_of_ble_eq_true rfl) (Nat.le_of_ble_eq_true rfl) dX9_span_226
          · replace hf := hf.trans (if_neg c6)
            refine lv_sipush (v := 1440) hx hb dX9_span_199 (by decide) ?_
            refine lv_goto (tgt := 208) hx hb dX9_span_202 (by decide) ?_
            refine lx_iast (g := upd (v4.2.2 21) (((96 + (12 * (v4.1 29))) + (v4.2.2 22 ((8 + (v4.1 29)).toNatClampNeg))).toNatClampNeg) 1440) hx hb hE.1 hP hD hS 15 0 rfl rfl (by assumption) (rfl) dX9_span_208 (fun H locs hP hD hS => ?_)
            have hP := va_P_eq (WM_a21 cI cZ cB a (sa v4 20 (((96 + (12 * (v4.1 29))) + (v4.2.2 22 ((8 + (v4.1 29)).toNatClampNeg))).toNatClampNeg) ((v1.1 26) - 2)) (((96 + (12 * (v4.1 29))) + (v4.2.2 22 ((8 + (v4.1 29)).toNatClampNeg))).toNatClampNeg) 1440) hP
            have hD := va_D_eq (WM_a21 cI cZ cB a (sa v4 20 (((96 + (12 * (v4.1 29))) + (v4.2.2 22 ((8 + (v4.1 29)).toNatClampNeg))).toNatClampNeg) ((v1.1 26) - 2)) (((96 + (12 * (v4.1 29))) + (v4.2.2 22 ((8 + (v4.1 29)).toNatClampNeg))).toNatClampNeg) 1440) hD
            refine lv_aload_n hx hb dX9_span_209 rfl (lv_at hl 3 rfl) ?_
            refine va_get (D := D) (ci := 10) (v := .ref (a 22)) (C := RX9) (T := TX9) (N := 45) hx hb hts im_X9_span_X9 hown hE.1 hP 0 rfl rfl 22 (by decide) (hts (.fieldLink RX9 60 "RiverBridgesModel" "spans" "[I") (by decide +kernel)) (fun _ h9 => h9) rfl dX9_span_210 ?_
            refine lv_bipush (v := 8) hx hb dX9_span_213 (by decide) ?_
            refine lv_aload_n hx hb dX9_span_215 rfl (lv_at hl 3 rfl) ?_
            refine va_get (D := D) (ci := 10) (v := .int (v4.1 29)) (C := RX9) (T := TX9) (N := 45) hx hb hts im_X9_span_X9 hown hE.1 hP 0 rfl rfl 29 (by decide) (hts (.fieldLink RX9 189 "RiverBridgesModel" "of" "I") (by decide +kernel)) (fun _ h9 => h9) rfl dX9_span_216 ?_
            refine lx_iadd (v := 8 + (v4.1 29)) hx hb (rfl) dX9_span_219 ?_
            refine lv_dup2_11 hx hb dX9_span_220 rfl rfl ?_
            refine lx_iald (v := v4.2.2 22 ((8 + (v4.1 29)).toNatClampNeg)) hx hb hE.1 hP 16 0 rfl rfl (by assumption) (rfl) dX9_span_221 ?_
            refine lv_iconst (v := 1) hx hb dX9_span_222 (by decide) ?_
            refine lx_iadd (v := (v4.2.2 22 ((8 + (v4.1 29)).toNatClampNeg)) + 1) hx hb (rfl) dX9_span_223 ?_
            refine lx_iast (g := upd (v4.2.2 22) ((8 + (v4.1 29)).toNatClampNeg) ((v4.2.2 22 ((8 + (v4.1 29)).toNatClampNeg)) + 1)) hx hb hE.1 hP hD hS 16 0 rfl rfl (by assumption) (rfl) dX9_span_224 (fun H locs hP hD hS => ?_)
            have hP := va_P_eq (WM_a22 cI cZ cB a (sa (sa v4 20 (((96 + (12 * (v4.1 29))) + (v4.2.2 22 ((8 + (v4.1 29)).toNatClampNeg))).toNatClampNeg) ((v1.1 26) - 2)) 21 (((96 + (12 * (v4.1 29))) + (v4.2.2 22 ((8 + (v4.1 29)).toNatClampNeg))).toNatClampNeg) 1440) ((8 + (v4.1 29)).toNatClampNeg) ((v4.2.2 22 ((8 + (v4.1 29)).toNatClampNeg)) + 1)) hP
            have hD := va_D_eq (WM_a22 cI cZ cB a (sa (sa v4 20 (((96 + (12 * (v4.1 29))) + (v4.2.2 22 ((8 + (v4.1 29)).toNatClampNeg))).toNatClampNeg) ((v1.1 26) - 2)) 21 (((96 + (12 * (v4.1 29))) + (v4.2.2 22 ((8 + (v4.1 29)).toNatClampNeg))).toNatClampNeg) 1440) ((8 + (v4.1 29)).toNatClampNeg) ((v4.2.2 22 ((8 + (v4.1 29)).toNatClampNeg)) + 1)) hD
            refine lv_iconst (v := 1) hx hb dX9_span_225 (by decide) ?_
            exact ss_zret () hx hb hr hlocks (by decide) (by rw [hf]; exact hP) (by rw [hf]; exact hD) hS (by rw [hf]) (Nat.le_of_ble_eq_true rfl) (Nat.le_of_ble_eq_true rfl) dX9_span_226
        · replace hf := hf.trans (if_neg c5)
          refine lv_iconst (v := 0) hx hb dX9_span_168 (by decide) ?_
          refine lv_goto (tgt := 175) hx hb dX9_span_169 (by decide) ?_
          refine lx_iast (g := upd (v4.2.2 20) (((96 + (12 * (v4.1 29))) + (v4.2.2 22 ((8 + (v4.1 29)).toNatClampNeg))).toNatClampNeg) 0) hx hb hE.1 hP hD hS 14 0 rfl rfl (by assumption) (rfl) dX9_span_175 (fun H locs hP hD hS => ?_)
          have hP := va_P_eq (WM_a20 cI cZ cB a v4 (((96 + (12 * (v4.1 29))) + (v4.2.2 22 ((8 + (v4.1 29)).toNatClampNeg))).toNatClampNeg) 0) hP
          have hD := va_D_eq (WM_a20 cI cZ cB a v4 (((96 + (12 * (v4.1 29))) + (v4.2.2 22 ((8 + (v4.1 29)).toNatClampNeg))).toNatClampNeg) 0) hD
          refine lv_aload_n hx hb dX9_span_176 rfl (lv_at hl 3 rfl) ?_
          refine va_get (D := D) (ci := 10) (v := .ref (a 21)) (C := RX9) (T := TX9) (N := 45) hx hb hts im_X9_span_X9 hown hE.1 hP 0 rfl rfl 21 (by decide) (hts (.fieldLink RX9 57 "RiverBridgesModel" "spanTo" "[I") (by decide +kernel)) (fun _ h9 => h9) rfl dX9_span_177 ?_
          refine lv_iload hx hb dX9_span_180 (lv_at hl 0 rfl) ?_
          refine lv_iload_n hx hb dX9_span_182 rfl (lv_at hl 4 rfl) ?_
          refine lv_if_eq (tgt := 192) hx hb dX9_span_183 (by decide) (fun _ => ?_) (fun c9 => absurd (cb) c9)
          refine lv_iload_n hx hb dX9_span_192 rfl (lv_at hl 2 rfl) ?_
          refine lv_sipush (v := 1438) hx hb dX9_span_193 (by decide) ?_
          refine lv_icmp_le (tgt := 205) hx hb dX9_span_196 (by decide) (fun c7 => ?_) (fun c7 => ?_)
          · replace hf := hf.trans (if_pos c7)
            refine lv_iload_n hx hb dX9_span_205 rfl (lv_at hl 2 rfl) ?_
            refine lv_iconst (v := 2) hx hb dX9_span_206 (by decide) ?_
            refine lx_iadd (v := (v1.1 26) + 2) hx hb (rfl) dX9_span_207 ?_
            refine lx_iast (g := upd (v4.2.2 21) (((96 + (12 * (v4.1 29))) + (v4.2.2 22 ((8 + (v4.1 29)).toNatClampNeg))).toNatClampNeg) ((v1.1 26) + 2)) hx hb hE.1 hP hD hS 15 0 rfl rfl (by assumption) (rfl) dX9_span_208 (fun H locs hP hD hS => ?_)
            have hP := va_P_eq (WM_a21 cI cZ cB a (sa v4 20 (((96 + (12 * (v4.1 29))) + (v4.2.2 22 ((8 + (v4.1 29)).toNatClampNeg))).toNatClampNeg) 0) (((96 + (12 * (v4.1 29))) + (v4.2.2 22 ((8 + (v4.1 29)).toNatClampNeg))).toNatClampNeg) ((v1.1 26) + 2)) hP
            have hD := va_D_eq (WM_a21 cI cZ cB a (sa v4 20 (((96 + (12 * (v4.1 29))) + (v4.2.2 22 ((8 + (v4.1 29)).toNatClampNeg))).toNatClampNeg) 0) (((96 + (12 * (v4.1 29))) + (v4.2.2 22 ((8 + (v4.1 29)).toNatClampNeg))).toNatClampNeg) ((v1.1 26) + 2)) hD
            refine lv_aload_n hx hb dX9_span_209 rfl (lv_at hl 3 rfl) ?_
            refine va_get (D := D) (ci := 10) (v := .ref (a 22)) (C := RX9) (T := TX9) (N := 45) hx hb hts im_X9_span_X9 hown hE.1 hP 0 rfl rfl 22 (by decide) (hts (.fieldLink RX9 60 "RiverBridgesModel" "spans" "[I") (by decide +kernel)) (fun _ h9 => h9) rfl dX9_span_210 ?_
            refine lv_bipush (v := 8) hx hb dX9_span_213 (by decide) ?_
            refine lv_aload_n hx hb dX9_span_215 rfl (lv_at hl 3 rfl) ?_
            refine va_get (D := D) (ci := 10) (v := .int (v4.1 29)) (C := RX9) (T := TX9) (N := 45) hx hb hts im_X9_span_X9 hown hE.1 hP 0 rfl rfl 29 (by decide) (hts (.fieldLink RX9 189 "RiverBridgesModel" "of" "I") (by decide +kernel)) (fun _ h9 => h9) rfl dX9_span_216 ?_
            refine lx_iadd (v := 8 + (v4.1 29)) hx hb (rfl) dX9_span_219 ?_
            refine lv_dup2_11 hx hb dX9_span_220 rfl rfl ?_
            refine lx_iald (v := v4.2.2 22 ((8 + (v4.1 29)).toNatClampNeg)) hx hb hE.1 hP 16 0 rfl rfl (by assumption) (rfl) dX9_span_221 ?_
            refine lv_iconst (v := 1) hx hb dX9_span_222 (by decide) ?_
            refine lx_iadd (v := (v4.2.2 22 ((8 + (v4.1 29)).toNatClampNeg)) + 1) hx hb (rfl) dX9_span_223 ?_
            refine lx_iast (g := upd (v4.2.2 22) ((8 + (v4.1 29)).toNatClampNeg) ((v4.2.2 22 ((8 + (v4.1 29)).toNatClampNeg)) + 1)) hx hb hE.1 hP hD hS 16 0 rfl rfl (by assumption) (rfl) dX9_span_224 (fun H locs hP hD hS => ?_)
            have hP := va_P_eq (WM_a22 cI cZ cB a (sa (sa v4 20 (((96 + (12 * (v4.1 29))) + (v4.2.2 22 ((8 + (v4.1 29)).toNatClampNeg))).toNatClampNeg) 0) 21 (((96 + (12 * (v4.1 29))) + (v4.2.2 22 ((8 + (v4.1 29)).toNatClampNeg))).toNatClampNeg) ((v1.1 26) + 2)) ((8 + (v4.1 29)).toNatClampNeg) ((v4.2.2 22 ((8 + (v4.1 29)).toNatClampNeg)) + 1)) hP
            have hD := va_D_eq (WM_a22 cI cZ cB a (sa (sa v4 20 (((96 + (12 * (v4.1 29))) + (v4.2.2 22 ((8 + (v4.1 29)).toNatClampNeg))).toNatClampNeg) 0) 21 (((96 + (12 * (v4.1 29))) + (v4.2.2 22 ((8 + (v4.1 29)).toNatClampNeg))).toNatClampNeg) ((v1.1 26) + 2)) ((8 + (v4.1 29)).toNatClampNeg) ((v4.2.2 22 ((8 + (v4.1 29)).toNatClampNeg)) + 1)) hD
            refine lv_iconst (v := 1) hx hb dX9_span_225 (by decide) ?_
            exact ss_zret () hx hb hr hlocks (by decide) (by rw [hf]; exact hP) (by rw [hf]; exact hD) hS (by rw [hf]) (Nat.le_of_ble_eq_true rfl) (Nat.le_of_ble_eq_true rfl) dX9_span_226
          · replace hf := hf.trans (if_neg c7)
            refine lv_sipush (v := 1440) hx hb dX9_span_199 (by decide) ?_
            refine lv_goto (tgt := 208) hx hb dX9_span_202 (by decide) ?_
            refine lx_iast (g := upd (v4.2.2 21) (((96 + (12 * (v4.1 29))) + (v4.2.2 22 ((8 + (v4.1 29)).toNatClampNeg))).toNatClampNeg) 1440) hx hb hE.1 hP hD hS 15 0 rfl rfl (by assumption) (rfl) dX9_span_208 (fun H locs hP hD hS => ?_)
            have hP := va_P_eq (WM_a21 cI cZ cB a (sa v4 20 (((96 + (12 * (v4.1 29))) + (v4.2.2 22 ((8 + (v4.1 29)).toNatClampNeg))).toNatClampNeg) 0) (((96 + (12 * (v4.1 29))) + (v4.2.2 22 ((8 + (v4.1 29)).toNatClampNeg))).toNatClampNeg) 1440) hP
            have hD := va_D_eq (WM_a21 cI cZ cB a (sa v4 20 (((96 + (12 * (v4.1 29))) + (v4.2.2 22 ((8 + (v4.1 29)).toNatClampNeg))).toNatClampNeg) 0) (((96 + (12 * (v4.1 29))) + (v4.2.2 22 ((8 + (v4.1 29)).toNatClampNeg))).toNatClampNeg) 1440) hD
            refine lv_aload_n hx hb dX9_span_209 rfl (lv_at hl 3 rfl) ?_
            refine va_get (D := D) (ci := 10) (v := .ref (a 22)) (C := RX9) (T := TX9) (N := 45) hx hb hts im_X9_span_X9 hown hE.1 hP 0 rfl rfl 22 (by decide) (hts (.fieldLink RX9 60 "RiverBridgesModel" "spans" "[I") (by decide +kernel)) (fun _ h9 => h9) rfl dX9_span_210 ?_
            refine lv_bipush (v := 8) hx hb dX9_span_213 (by decide) ?_
            refine lv_aload_n hx hb dX9_span_215 rfl (lv_at hl 3 rfl) ?_
            refine va_get (D := D) (ci := 10) (v := .int (v4.1 29)) (C := RX9) (T := TX9) (N := 45) hx hb hts im_X9_span_X9 hown hE.1 hP 0 rfl rfl 29 (by decide) (hts (.fieldLink RX9 189 "RiverBridgesModel" "of" "I") (by decide +kernel)) (fun _ h9 => h9) rfl dX9_span_216 ?_
            refine lx_iadd (v := 8 + (v4.1 29)) hx hb (rfl) dX9_span_219 ?_
            refine lv_dup2_11 hx hb dX9_span_220 rfl rfl ?_
            refine lx_iald (v := v4.2.2 22 ((8 + (v4.1 29)).toNatClampNeg)) hx hb hE.1 hP 16 0 rfl rfl (by assumption) (rfl) dX9_span_221 ?_
            refine lv_iconst (v := 1) hx hb dX9_span_222 (by decide) ?_
            refine lx_iadd (v := (v4.2.2 22 ((8 + (v4.1 29)).toNatClampNeg)) + 1) hx hb (rfl) dX9_span_223 ?_
            refine lx_iast (g := upd (v4.2.2 22) ((8 + (v4.1 29)).toNatClampNeg) ((v4.2.2 22 ((8 + (v4.1 29)).toNatClampNeg)) + 1)) hx hb hE.1 hP hD hS 16 0 rfl rfl (by assumption) (rfl) dX9_span_224 (fun H locs hP hD hS => ?_)
            have hP := va_P_eq (WM_a22 cI cZ cB a (sa (sa v4 20 (((96 + (12 * (v4.1 29))) + (v4.2.2 22 ((8 + (v4.1 29)).toNatClampNeg))).toNatClampNeg) 0) 21 (((96 + (12 * (v4.1 29))) + (v4.2.2 22 ((8 + (v4.1 29)).toNatClampNeg))).toNatClampNeg) 1440) ((8 + (v4.1 29)).toNatClampNeg) ((v4.2.2 22 ((8 + (v4.1 29)).toNatClampNeg)) + 1)) hP
            have hD := va_D_eq (WM_a22 cI cZ cB a (sa (sa v4 20 (((96 + (12 * (v4.1 29))) + (v4.2.2 22 ((8 + (v4.1 29)).toNatClampNeg))).toNatClampNeg) 0) 21 (((96 + (12 * (v4.1 29))) + (v4.2.2 22 ((8 + (v4.1 29)).toNatClampNeg))).toNatClampNeg) 1440) ((8 + (v4.1 29)).toNatClampNeg) ((v4.2.2 22 ((8 + (v4.1 29)).toNatClampNeg)) + 1)) hD
            refine lv_iconst (v := 1) hx hb dX9_span_225 (by decide) ?_
            exact ss_zret () hx hb hr hlocks (by decide) (by rw [hf]; exact hP) (by rw [hf]; exact hD) hS (by rw [hf]) (Nat.le_of_ble_eq_true rfl) (Nat.le_of_ble_eq_true rfl) dX9_span_226
      · replace hf := hf.trans (if_neg cb)
        refine lv_aload_n hx hb dX9_span_55 rfl (lv_at hl 2 rfl) ?_
        refine lv_ldc2 (v := 29807) hx hb hown (hts (.constantLong RX9 200 (29807)) (by decide +kernel)) dX9_span_56 ?_
        refine sf_calli (va_runV (As := [.long 29807]) (rest := []) ⟨hx, hb, hml, hown, hts⟩ (m_isWord l D cI cZ cB cO cJ a0 H.size a  v4 29807 ) (cwV 1 hts gX9_span_X9_isWord rfl rfl rfl (by decide +kernel) ⟨Nat.le_of_ble_eq_true rfl, Nat.le_of_ble_eq_true rfl⟩) (preV_full hE hZ hA hS hP hD (va_recv hE.1 hP (ci := 10) (q0 := 0) rfl rfl)) rfl rfl hl.1 rfl (lv_room (Nat.le_of_ble_eq_true rfl)) dX9_span_59 ⟨Nat.le_of_ble_eq_true rfl, Nat.le_of_ble_eq_true rfl⟩) hP hD hS hA (fun r9 u9 H locs hw hP hD hS => ?_)
        subst hw
        have hP : va_P D vwCl (WM cI cZ cB a v4) H := hP
        have hD : va_D A (WM cI cZ cB a v4) := hD
        refine lv_if_ne (tgt := 70) hx hb dX9_span_62 (by decide) (fun c8 => ?_) (fun c8 => ?_)
        · replace hf := hf.trans (if_neg c8)
          refine lv_aload_n hx hb dX9_span_70 rfl (lv_at hl 2 rfl) ?_
          refine sf_callv (va_runV (As := []) (rest := []) ⟨hx, hb, hml, hown, hts⟩ (m_next l D cI cZ cB cO cJ a0 H.size a _  v4  (hn2.1)) (cwV 0 hts gX9_span_X9_next rfl rfl rfl (by decide +kernel) ⟨Nat.le_of_ble_eq_true rfl, Nat.le_of_ble_eq_true rfl⟩) (preV_full hE hZ hA hS hP hD (va_recv hE.1 hP (ci := 10) (q0 := 0) rfl rfl)) rfl rfl hl.1 rfl (lv_room (Nat.le_of_ble_eq_true rfl)) dX9_span_71 ⟨Nat.le_of_ble_eq_true rfl, Nat.le_of_ble_eq_true rfl⟩) hP hD hS hA (fun u9 H locs hw hP hD hS => ?_)
          have hP : va_P D vwCl (WM cI cZ cB a (f_next v4)) H := hP
          have hD : va_D A (WM cI cZ cB a (f_next v4)) := hD
          have hn3 := next_na hn2.1
          generalize ev9 : f_next v4 = v9 at hP hD hf hn3 ⊢
          refine lv_aload_n hx hb dX9_span_74 rfl (lv_at hl 2 rfl) ?_
          refine va_get (D := D) (ci := 10) (v := .int (v9.1 24)) (C := RX9) (T := TX9) (N := 45) hx hb hts im_X9_span_X9 hown hE.1 hP 0 rfl rfl 24 (by decide) (hts (.fieldLink RX9 143 "RiverBridgesModel" "token" "I") (by decide +kernel)) (fun _ h9 => h9) rfl dX9_span_75 ?_
          refine lv_iconst (v := 2) hx hb dX9_span_78 (by decide) ?_
          refine lv_icmp_eq (tgt := 87) hx hb dX9_span_79 (by decide) (fun c10 => ?_) (fun c10 => ?_)
          · replace hf := hf.trans (if_pos c10)
            refine lv_aload_n hx hb dX9_span_87 rfl (lv_at hl 2 rfl) ?_
            refine va_get (D := D) (ci := 10) (v := .int (v9.1 26)) (C := RX9) (T := TX9) (N := 45) hx hb hts im_X9_span_X9 hown hE.1 hP 0 rfl rfl 26 (by decide) (hts (.fieldLink RX9 157 "RiverBridgesModel" "number" "I") (by decide +kernel)) (fun _ h9 => h9) rfl dX9_span_88 ?_
            refine lv_iload_n hx hb dX9_span_91 rfl (lv_at hl 1 rfl) ?_
            refine lv_icmp_le (tgt := 105) hx hb dX9_span_92 (by decide) (fun c11 => ?_) (fun c11 => ?_)
            · replace hf := hf.trans (if_pos c11)
              refine lv_aload_n hx hb dX9_span_105 rfl (lv_at hl 2 rfl) ?_
              refine lv_iconst (v := 3) hx hb dX9_span_106 (by decide) ?_
              refine lv_aload_n hx hb dX9_span_107 rfl (lv_at hl 2 rfl) ?_
              refine va_get (D := D) (ci := 10) (v := .int (v9.1 25)) (C := RX9) (T := TX9) (N := 45) hx hb hts im_X9_span_X9 hown hE.1 hP 0 rfl rfl 25 (by decide) (hts (.fieldLink RX9 140 "RiverBridgesModel" "at" "I") (by decide +kernel)) (fun _ h9 => h9) rfl dX9_span_108 ?_
              refine sf_calli (va_runV (As := [.int 3, .int (v9.1 25)]) (rest := []) ⟨hx, hb, hml, hown, hts⟩ (m_wrong l D cI cZ cB cO cJ a0 H.size a  v9 3 (v9.1 25) ) (cwV 2 hts gX9_span_X9_wrong rfl rfl rfl (by decide +kernel) ⟨Nat.le_of_ble_eq_true rfl, Nat.le_of_ble_eq_true rfl⟩) (preV_full hE hZ hA hS hP hD (va_recv hE.1 hP (ci := 10) (q0 := 0) rfl rfl)) rfl rfl hl.1 rfl (lv_room (Nat.le_of_ble_eq_true rfl)) dX9_span_111 ⟨Nat.le_of_ble_eq_true rfl, Nat.le_of_ble_eq_true rfl⟩) hP hD hS hA (fun r9 u9 H locs hw hP hD hS => ?_)
              subst hw
              have hP : va_P D vwCl (WM cI cZ cB a ((f_wrong v9 3 (v9.1 25)).2)) H := hP
              have hD : va_D A (WM cI cZ cB a ((f_wrong v9 3 (v9.1 25)).2)) := hD
              generalize ev12 : f_wrong v9 3 (v9.1 25) = v12 at hP hD hf ⊢
              exact ss_zret () hx hb hr hlocks (nar01 (Or.inl (by rw [← ev12]; exact wrong_1 _ _ _))) (by rw [hf]; exact hP) (by rw [hf]; exact hD) hS (by rw [hf]) (Nat.le_of_ble_eq_true rfl) (Nat.le_of_ble_eq_true rfl) dX9_span_114
            · replace hf := hf.trans (if_neg c11)
              refine lv_aload_n hx hb dX9_span_95 rfl (lv_at hl 2 rfl) ?_
              refine va_get (D := D) (ci := 10) (v := .int (v9.1 26)) (C := RX9) (T := TX9) (N := 45) hx hb hts im_X9_span_X9 hown hE.1 hP 0 rfl rfl 26 (by decide) (hts (.fieldLink RX9 157 "RiverBridgesModel" "number" "I") (by decide +kernel)) (fun _ h9 => h9) rfl dX9_span_96 ?_
              refine lv_sipush (v := 1440) hx hb dX9_span_99 (by decide) ?_
              refine lv_icmp_le (tgt := 115) hx hb dX9_span_102 (by decide) (fun c13 => ?_) (fun c13 => ?_)
              · replace hf := hf.trans (if_pos c13)
                refine lv_aload_n hx hb dX9_span_115 rfl (lv_at hl 2 rfl) ?_
                refine va_get (D := D) (ci := 10) (v := .int (v9.1 26)) (C := RX9) (T := TX9) (N := 45) hx hb hts im_X9_span_X9 hown hE.1 hP 0 rfl rfl 26 (by decide) (hts (.fieldLink RX9 157 "RiverBridgesModel" "number" "I") (by decide +kernel)) (fun _ h9 => h9) rfl dX9_span_116 ?_
                refine lv_istore_n (lv' := [(3, .int (v9.1 26)), (2, .int (v1.1 26)), (0, .ref (a 45)), (1, .int bar)]) hx hb dX9_span_119 rfl hl (by decide) rfl (fun ls hl => ?_)
                refine lv_aload_n hx hb dX9_span_120 rfl (lv_at hl 2 rfl) ?_
                refine sf_callv (va_runV (As := []) (rest := []) ⟨hx, hb, hml, hown, hts⟩ (m_next l D cI cZ cB cO cJ a0 H.size a _  v9  (hn3.1)) (cwV 0 hts gX9_span_X9_next rfl rfl rfl (by decide +kernel) ⟨Nat.le_of_ble_eq_true rfl, Nat.le_of_ble_eq_true rfl⟩) (preV_full hE hZ hA hS hP hD (va_recv hE.1 hP (ci := 10) (q0 := 0) rfl rfl)) rfl rfl hl.1 rfl (lv_room (Nat.le_of_ble_eq_true rfl)) dX9_span_121 ⟨Nat.le_of_ble_eq_true rfl, Nat.le_of_ble_eq_true rfl⟩) hP hD hS hA (fun u9 H locs hw hP hD hS => ?_)
                have hP : va_P D vwCl (WM cI cZ cB a (f_next v9)) H := hP
                have hD : va_D A (WM cI cZ cB a (f_next v9)) := hD
                have hn4 := next_na hn3.1
                generalize ev14 : f_next v9 = v14 at hP hD hf hn4 ⊢
                have hv : NX u v14 := (hn1.2.1.tr hn2.2.1).tr (hn3.2.1.tr hn4.2.1)
                have ho9 : ixN (v14.1 29) 8 := by rw [hv.2 29 (by decide) (by decide) (by decide) (by decide)]; exact hof
                have hs9 : ixN (v14.2.2 22 (8 + v14.1 29).toNatClampNeg) 12 := by rw [hv.1, hv.2 29 (by decide) (by decide) (by decide) (by decide)]; exact hsp
                have ia := ix_add8 ho9
                have ib := ix_span ho9 hs9
                refine lv_bipush (v := 96) hx hb dX9_span_124 (by decide) ?_
                refine lv_bipush (v := 12) hx hb dX9_span_126 (by decide) ?_
                refine lv_aload_n hx hb dX9_span_128 rfl (lv_at hl 2 rfl) ?_
                refine va_get (D := D) (ci := 10) (v := .int (v14.1 29)) (C := RX9) (T := TX9) (N := 45) hx hb hts im_X9_span_X9 hown hE.1 hP 0 rfl rfl 29 (by decide) (hts (.fieldLink RX9 189 "RiverBridgesModel" "of" "I") (by decide +kernel)) (fun _ h9 => h9) rfl dX9_span_129 ?_
                refine lx_imul (v := 12 * (v14.1 29)) hx hb (rfl) dX9_span_132 ?_
                refine lx_iadd (v := 96 + (12 * (v14.1 29))) hx hb (rfl) dX9_span_133 ?_
                refine lv_aload_n hx hb dX9_span_134 rfl (lv_at hl 2 rfl) ?_
                refine va_get (D := D) (ci := 10) (v := .ref (a 22)) (C := RX9) (T := TX9) (N := 45) hx hb hts im_X9_span_X9 hown hE.1 hP 0 rfl rfl 22 (by decide) (hts (.fieldLink RX9 60 "RiverBridgesModel" "spans" "[I") (by decide +kernel)) (fun _ h9 => h9) rfl dX9_span_135 ?_
                refine lv_bipush (v := 8) hx hb dX9_span_138 (by decide) ?_
                refine lv_aload_n hx hb dX9_span_140 rfl (lv_at hl 2 rfl) ?_
                refine va_get (D := D) (ci := 10) (v := .int (v14.1 29)) (C := RX9) (T := TX9) (N := 45) hx hb hts im_X9_span_X9 hown hE.1 hP 0 rfl rfl 29 (by decide) (hts (.fieldLink RX9 189 "RiverBridgesModel" "of" "I") (by decide +kernel)) (fun _ h9 => h9) rfl dX9_span_141 ?_
                refine lx_iadd (v := 8 + (v14.1 29)) hx hb (rfl) dX9_span_144 ?_
                refine lx_iald (v := v14.2.2 22 ((8 + (v14.1 29)).toNatClampNeg)) hx hb hE.1 hP 16 0 rfl rfl (by assumption) (rfl) dX9_span_145 ?_
                refine lx_iadd (v := (96 + (12 * (v14.1 29))) + (v14.2.2 22 ((8 + (v14.1 29)).toNatClampNeg))) hx hb (rfl) dX9_span_146 ?_
                refine lv_istore (lv' := [(4, .int ((96 + (12 * (v14.1 29))) + (v14.2.2 22 ((8 + (v14.1 29)).toNatClampNeg)))), (3, .int (v9.1 26)), (2, .int (v1.1 26)), (0, .ref (a 45)), (1, .int bar)]) hx hb dX9_span_147 hl (by decide) rfl (fun ls hl => ?_)
                refine lv_aload_n hx hb dX9_span_149 rfl (lv_at hl 3 rfl) ?_
                refine va_get (D := D) (ci := 10) (v := .ref (a 20)) (C := RX9) (T := TX9) (N := 45) hx hb hts im_X9_span_X9 hown hE.1 hP 0 rfl rfl 20 (by decide) (hts (.fieldLink RX9 54 "RiverBridgesModel" "spanFrom" "[I") (by decide +kernel)) (fun _ h9 => h9) rfl dX9_span_150 ?_
                refine lv_iload hx hb dX9_span_153 (lv_at hl 0 rfl) ?_
                refine lv_iload_n hx hb dX9_span_155 rfl (lv_at hl 4 rfl) ?_
                refine lv_if_eq (tgt := 163) hx hb dX9_span_156 (by decide) (fun c9 => absurd c9 (cb)) (fun _ => ?_)
                refine lv_iload_n hx hb dX9_span_159 rfl (lv_at hl 2 rfl) ?_
                refine lv_goto (tgt := 175) hx hb dX9_span_160 (by decide) ?_
                refine lx_iast (g := upd (v14.2.2 20) (((96 + (12 * (v14.1 29))) + (v14.2.2 22 ((8 + (v14.1 29)).toNatClampNeg))).toNatClampNeg) (v1.1 26)) hx hb hE.1 hP hD hS 14 0 rfl rfl (by assumption) (rfl) dX9_span_175 (fun H locs hP hD hS => ?_)
                have hP := va_P_eq (WM_a20 cI cZ cB a v14 (((96 + (12 * (v14.1 29))) + (v14.2.2 22 ((8 + (v14.1 29)).toNatClampNeg))).toNatClampNeg) (v1.1 26)) hP
                have hD := va_D_eq (WM_a20 cI cZ cB a v14 (((96 + (12 * (v14.1 29))) + (v14.2.2 22 ((8 + (v14.1 29)).toNatClampNeg))).toNatClampNeg) (v1.1 26)) hD
                refine lv_aload_n hx hb dX9_span_176 rfl (lv_at hl 3 rfl) ?_
                refine va_get (D := D) (ci := 10) (v := .ref (a 21)) (C := RX9) (T := TX9) (N := 45) hx hb hts im_X9_span_X9 hown hE.1 hP 0 rfl rfl 21 (by decide) (hts (.fieldLink RX9 57 "RiverBridgesModel" "spanTo" "[I") (by decide +kernel)) (fun _ h9 => h9) rfl dX9_span_177 ?_
                refine lv_iload hx hb dX9_span_180 (lv_at hl 0 rfl) ?_
                refine lv_iload_n hx hb dX9_span_182 rfl (lv_at hl 4 rfl) ?_
                refine lv_if_eq (tgt := 192) hx hb dX9_span_183 (by decide) (fun c9 => absurd c9 (cb)) (fun _ => ?_)
                refine lv_iload_n hx hb dX9_span_186 rfl (lv_at hl 1 rfl) ?_
                refine lv_iconst (v := 1) hx hb dX9_span_187 (by decide) ?_
                refine lx_isub (v := (v9.1 26) - 1) hx hb (rfl) dX9_span_188 ?_
                refine lv_goto (tgt := 208) hx hb dX9_span_189 (by decide) ?_
                refine lx_iast (g := upd (v14.2.2 21) (((96 + (12 * (v14.1 29))) + (v14.2.2 22 ((8 + (v14.1 29)).toNatClampNeg))).toNatClampNeg) ((v9.1 26) - 1)) hx hb hE.1 hP hD hS 15 0 rfl rfl (by assumption) (rfl) dX9_span_208 (fun H locs hP hD hS => ?_)
                have hP := va_P_eq (WM_a21 cI cZ cB a (sa v14 20 (((96 + (12 * (v14.1 29))) + (v14.2.2 22 ((8 + (v14.1 29)).toNatClampNeg))).toNatClampNeg) (v1.1 26)) (((96 + (12 * (v14.1 29))) + (v14.2.2 22 ((8 + (v14.1 29)).toNatClampNeg))).toNatClampNeg) ((v9.1 26) - 1)) hP
                have hD := va_D_eq (WM_a21 cI cZ cB a (sa v14 20 (((96 + (12 * (v14.1 29))) + (v14.2.2 22 ((8 + (v14.1 29)).toNatClampNeg))).toNatClampNeg) (v1.1 26)) (((96 + (12 * (v14.1 29))) + (v14.2.2 22 ((8 + (v14.1 29)).toNatClampNeg))).toNatClampNeg) ((v9.1 26) - 1)) hD
                refine lv_aload_n hx hb dX9_span_209 rfl (lv_at hl 3 rfl) ?_
                refine va_get (D := D) (ci := 10) (v := .ref (a 22)) (C := RX9) (T := TX9) (N := 45) hx hb hts im_X9_span_X9 hown hE.1 hP 0 rfl rfl 22 (by decide) (hts (.fieldLink RX9 60 "RiverBridgesModel" "spans" "[I") (by decide +kernel)) (fun _ h9 => h9) rfl dX9_span_210 ?_
                refine lv_bipush (v := 8) hx hb dX9_span_213 (by decide) ?_
                refine lv_aload_n hx hb dX9_span_215 rfl (lv_at hl 3 rfl) ?_
                refine va_get (D := D) (ci := 10) (v := .int (v14.1 29)) (C := RX9) (T := TX9) (N := 45) hx hb hts im_X9_span_X9 hown hE.1 hP 0 rfl rfl 29 (by decide) (hts (.fieldLink RX9 189 "RiverBridgesModel" "of" "I") (by decide +kernel)) (fun _ h9 => h9) rfl dX9_span_216 ?_
                refine lx_iadd (v := 8 + (v14.1 29)) hx hb (rfl) dX9_span_219 ?_
                refine lv_dup2_11 hx hb dX9_span_220 rfl rfl ?_
                refine lx_iald (v := v14.2.2 22 ((8 + (v14.1 29)).toNatClampNeg)) hx hb hE.1 hP 16 0 rfl rfl (by assumption) (rfl) dX9_span_221 ?_
                refine lv_iconst (v := 1) hx hb dX9_span_222 (by decide) ?_
                refine lx_iadd (v := (v14.2.2 22 ((8 + (v14.1 29)).toNatClampNeg)) + 1) hx hb (rfl) dX9_span_223 ?_
                refine lx_iast (g := upd (v14.2.2 22) ((8 + (v14.1 29)).toNatClampNeg) ((v14.2.2 22 ((8 + (v14.1 29)).toNatClampNeg)) + 1)) hx hb hE.1 hP hD hS 16 0 rfl rfl (by assumption) (rfl) dX9_span_224 (fun H locs hP hD hS => ?_)
                have hP := va_P_eq (WM_a22 cI cZ cB a (sa (sa v14 20 (((96 + (12 * (v14.1 29))) + (v14.2.2 22 ((8 + (v14.1 29)).toNatClampNeg))).toNatClampNeg) (v1.1 26)) 21 (((96 + (12 * (v14.1 29))) + (v14.2.2 22 ((8 + (v14.1 29)).toNatClampNeg))).toNatClampNeg) ((v9.1 26) - 1)) ((8 + (v14.1 29)).toNatClampNeg) ((v14.2.2 22 ((8 + (v14.1 29)).toNatClampNeg)) + 1)) hP
                have hD := va_D_eq (WM_a22 cI cZ cB a (sa (sa v14 20 (((96 + (12 * (v14.1 29))) + (v14.2.2 22 ((8 + (v14.1 29)).toNatClampNeg))).toNatClampNeg) (v1.1 26)) 21 (((96 + (12 * (v14.1 29))) + (v14.2.2 22 ((8 + (v14.1 29)).toNatClampNeg))).toNatClampNeg) ((v9.1 26) - 1)) ((8 + (v14.1 29)).toNatClampNeg) ((v14.2.2 22 ((8 + (v14.1 29)).toNatClampNeg)) + 1)) hD
                refine lv_iconst (v := 1) hx hb dX9_span_225 (by decide) ?_
                exact ss_zret () hx hb hr hlocks (by decide) (by rw [hf]; exact hP) (by rw [hf]; exact hD) hS (by rw [hf]) (Nat.le_of_ble_eq_true rfl) (Nat.le_of_ble_eq_true rfl) dX9_span_226
              · replace hf := hf.trans (if_neg c13)
                refine lv_aload_n hx hb dX9_span_105 rfl (lv_at hl 2 rfl) ?_
                refine lv_iconst (v := 3) hx hb dX9_span_106 (by decide) ?_
                refine lv_aload_n hx hb dX9_span_107 rfl (lv_at hl 2 rfl) ?_
                refine va_get (D := D) (ci := 10) (v := .int (v9.1 25)) (C := RX9) (T := TX9) (N := 45) hx hb hts im_X9_span_X9 hown hE.1 hP 0 rfl rfl 25 (by decide) (hts (.fieldLink RX9 140 "RiverBridgesModel" "at" "I") (by decide +kernel)) (fun _ h9 => h9) rfl dX9_span_108 ?_
                refine sf_calli (va_runV (As := [.int 3, .int (v9.1 25)]) (rest := []) ⟨hx, hb, hml, hown, hts⟩ (m_wrong l D cI cZ cB cO cJ a0 H.size a  v9 3 (v9.1 25) ) (cwV 2 hts gX9_span_X9_wrong rfl rfl rfl (by decide +kernel) ⟨Nat.le_of_ble_eq_true rfl, Nat.le_of_ble_eq_true rfl⟩) (preV_full hE hZ hA hS hP hD (va_recv hE.1 hP (ci := 10) (q0 := 0) rfl rfl)) rfl rfl hl.1 rfl (lv_room (Nat.le_of_ble_eq_true rfl)) dX9_span_111 ⟨Nat.le_of_ble_eq_true rfl, Nat.le_of_ble_eq_true rfl⟩) hP hD hS hA (fun r9 u9 H locs hw hP hD hS => ?_)
                subst hw
                have hP : va_P D vwCl (WM cI cZ cB a ((f_wrong v9 3 (v9.1 25)).2)) H := hP
                have hD : va_D A (WM cI cZ cB a ((f_wrong v9 3 (v9.1 25)).2)) := hD
                generalize ev15 : f_wrong v9 3 (v9.1 25) = v15 at hP hD hf ⊢
                exact ss_zret () hx hb hr hlocks (nar01 (Or.inl (by rw [← ev15]; exact wrong_1 _ _ _))) (by rw [hf]; exact hP) (by rw [hf]; exact hD) hS (by rw [hf]) (Nat.le_of_ble_eq_true rfl) (Nat.le_of_ble_eq_true rfl) dX9_span_114
          · replace hf := hf.trans (if_neg c10)
            refine lv_aload_n hx hb dX9_span_82 rfl (lv_at hl 2 rfl) ?_
            refine sf_calli (va_runV (As := []) (rest := []) ⟨hx, hb, hml, hown, hts⟩ (m_cant l D cI cZ cB cO cJ a0 H.size a  v9  ) (cwV 0 hts gX9_span_X9_cant rfl rfl rfl (by decide +kernel) ⟨Nat.le_of_ble_eq_true rfl, Nat.le_of_ble_eq_true rfl⟩) (preV_full hE hZ hA hS hP hD (va_recv hE.1 hP (ci := 10) (q0 := 0) rfl rfl)) rfl rfl hl.1 rfl (lv_room (Nat.le_of_ble_eq_true rfl)) dX9_span_83 ⟨Nat.le_of_ble_eq_true rfl, Nat.le_of_ble_eq_true rfl⟩) hP hD hS hA (fun r9 u9 H locs hw hP hD hS => ?_)
            subst hw
            have hP : va_P D vwCl (WM cI cZ cB a ((f_cant v9).2)) H := hP
            have hD : va_D A (WM cI cZ cB a ((f_cant v9).2)) := hD
            generalize ev16 : f_cant v9 = v16 at hP hD hf ⊢
            exact ss_zret () hx hb hr hlocks (nar01 (Or.inl (by rw [← ev16]; exact cant_1 _))) (by rw [hf]; exact hP) (by rw [hf]; exact hD) hS (by rw [hf]) (Nat.le_of_ble_eq_true rfl) (Nat.le_of_ble_eq_true rfl) dX9_span_86
        · replace hf := hf.trans (if_pos c8)
          refine lv_aload_n hx hb dX9_span_65 rfl (lv_at hl 2 rfl) ?_
          refine sf_calli (va_runV (As := []) (rest := []) ⟨hx, hb, hml, hown, hts⟩ (m_cant l D cI cZ cB cO cJ a0 H.size a  v4  ) (cwV 0 hts gX9_span_X9_cant rfl rfl rfl (by decide +kernel) ⟨Nat.le_of_ble_eq_true rfl, Nat.le_of_ble_eq_true rfl⟩) (preV_full hE hZ hA hS hP hD (va_recv hE.1 hP (ci := 10) (q0 := 0) rfl rfl)) rfl rfl hl.1 rfl (lv_room (Nat.le_of_ble_eq_true rfl)) dX9_span_66 ⟨Nat.le_of_ble_eq_true rfl, Nat.le_of_ble_eq_true rfl⟩) hP hD hS hA (fun r9 u9 H locs hw hP hD hS => ?_)
          subst hw
          have hP : va_P D vwCl (WM cI cZ cB a ((f_cant v4).2)) H := hP
          have hD : va_D A (WM cI cZ cB a ((f_cant v4).2)) := hD
          generalize ev17 : f_cant v4 = v17 at hP hD hf ⊢
          exact ss_zret () hx hb hr hlocks (nar01 (Or.inl (by rw [← ev17]; exact cant_1 _))) (by rw [hf]; exact hP) (by rw [hf]; exact hD) hS (by rw [hf]) (Nat.le_of_ble_eq_true rfl) (Nat.le_of_ble_eq_true rfl) dX9_span_69
    · replace hf := hf.trans (if_neg c3)
      refine lv_aload_n hx hb dX9_span_27 rfl (lv_at hl 0 rfl) ?_
      refine lv_iconst (v := 3) hx hb dX9_span_28 (by decide) ?_
      refine lv_aload_n hx hb dX9_span_29 rfl (lv_at hl 0 rfl) ?_
      refine va_get (D := D) (ci := 10) (v := .int (v1.1 25)) (C := RX9) (T := TX9) (N := 45) hx hb hts im_X9_span_X9 hown hE.1 hP 0 rfl rfl 25 (by decide) (hts (.fieldLink RX9 140 "RiverBridgesModel" "at" "I") (by decide +kernel)) (fun _ h9 => h9) rfl dX9_span_30 ?_
      refine sf_calli (va_runV (As := [.int 3, .int (v1.1 25)]) (rest := []) ⟨hx, hb, hml, hown, hts⟩ (m_wrong l D cI cZ cB cO cJ a0 H.size a  v1 3 (v1.1 25) ) (cwV 2 hts gX9_span_X9_wrong rfl rfl rfl (by decide +kernel) ⟨Nat.le_of_ble_eq_true rfl, Nat.le_of_ble_eq_true rfl⟩) (preV_full hE hZ hA hS hP hD (va_recv hE.1 hP (ci := 10) (q0 := 0) rfl rfl)) rfl rfl hl.1 rfl (lv_room (Nat.le_of_ble_eq_true rfl)) dX9_span_33 ⟨Nat.le_of_ble_eq_true rfl, Nat.le_of_ble_eq_true rfl⟩) hP hD hS hA (fun r9 u9 H locs hw hP hD hS => ?_)
      subst hw
      have hP : va_P D vwCl (WM cI cZ cB a ((f_wrong v1 3 (v1.1 25)).2)) H := hP
      have hD : va_D A (WM cI cZ cB a ((f_wrong v1 3 (v1.1 25)).2)) := hD
      generalize ev18 : f_wrong v1 3 (v1.1 25) = v18 at hP hD hf ⊢
      exact ss_zret () hx hb hr hlocks (nar01 (Or.inl (by rw [← ev18]; exact wrong_1 _ _ _))) (by rw [hf]; exact hP) (by rw [hf]; exact hD) hS (by rw [hf]) (Nat.le_of_ble_eq_true rfl) (Nat.le_of_ble_eq_true rfl) dX9_span_36
  · replace hf := hf.trans (if_neg c2)
    refine lv_aload_n hx hb dX9_span_12 rfl (lv_at hl 0 rfl) ?_
    refine sf_calli (va_runV (As := []) (rest := []) ⟨hx, hb, hml, hown, hts⟩ (m_cant l D cI cZ cB cO cJ a0 H.size a  v1  ) (cwV 0 hts gX9_span_X9_cant rfl rfl rfl (by decide +kernel) ⟨Nat.le_of_ble_eq_true rfl, Nat.le_of_ble_eq_true rfl⟩) (preV_full hE hZ hA hS hP hD (va_recv hE.1 hP (ci := 10) (q0 := 0) rfl rfl)) rfl rfl hl.1 rfl (lv_room (Nat.le_of_ble_eq_true rfl)) dX9_span_13 ⟨Nat.le_of_ble_eq_true rfl, Nat.le_of_ble_eq_true rfl⟩) hP hD hS hA (fun r9 u9 H locs hw hP hD hS => ?_)
    subst hw
    have hP : va_P D vwCl (WM cI cZ cB a ((f_cant v1).2)) H := hP
    have hD : va_D A (WM cI cZ cB a ((f_cant v1).2)) := hD
    generalize ev19 : f_cant v1 = v19 at hP hD hf ⊢
    exact ss_zret () hx hb hr hlocks (nar01 (Or.inl (by rw [← ev19]; exact cant_1 _))) (by rw [hf]; exact hP) (by rw [hf]; exact hD) hS (by rw [hf]) (Nat.le_of_ble_eq_true rfl) (Nat.le_of_ble_eq_true rfl) dX9_span_16
/-- a span was read, or not: what is so behind it -/
def SO (nB nS nK mi ln zt : Nat) (u : RS) (r : Int32 × RS) : Prop := MI nB nS nK mi ln r.2 ∧ TI zt r.2 ∧ r.2.1 29 = u.1 29 ∧ (∃ i j : Nat, u.1 4 = nI i ∧ r.2.1 4 = nI j ∧ i ≤ j ∧ j ≤ zt ∧ (¬ r.1 = 0 → i < j ∧ r.2.2.2 22 (8 + u.1 29).toNatClampNeg = u.2.2 22 (8 + u.1 29).toNatClampNeg + 1))
theorem NA.tr {zt : Nat} {u v w : RS} (h : NA zt u v) (g : NA zt v w) : NA zt u w := by
  obtain ⟨a1, a2, ⟨i, j, b1, b2, b3, b5, b4⟩, a4⟩ := h
  obtain ⟨c1, c2, ⟨i2, j2, d1, d2, d3, d5, d4⟩, c4⟩ := g
  have hz := a1.1.2
  have e : j = i2 := (nI_eq (by omega) (by omega)).mp (b2.symm.trans d1)
  exact ⟨c1, a2.tr c2, ⟨i, j2, b1, d2, by omega, d5, fun h9 => by have := d4 h9; omega⟩, c4⟩
theorem SO_stop {nB nS nK mi ln zt : Nat} {u v : RS} (hI : MI nB nS nK mi ln u) (h : NA zt u v) (kd wh : Int32) {x : Int32} (hx : x = 0) : SO nB nS nK mi ln zt u (x, sg (sg v 27 kd) 28 wh) := by
  obtain ⟨a1, a2, ⟨i, j, b1, b2, b3, b5, b4⟩, a4⟩ := h
  exact ⟨MI_sg (MI_sg (NX_MI a2 hI) (by decide)) (by decide), TI_sg (TI_sg a1 (by decide)) (by decide), a2.2 29 (by decide) (by decide) (by decide) (by decide), i, j, b1, b2, b3, b5, fun h9 => absurd hx h9⟩
theorem SO_cant {nB nS nK mi ln zt : Nat} {u v : RS} (hI : MI nB nS nK mi ln u) (h : NA zt u v) : SO nB nS nK mi ln zt u ((f_cant v).1, (f_cant v).2) := by
  obtain ⟨kd, e⟩ := cant_2 v
  rw [e]
  exact SO_stop hI h _ _ (cant_1 v)
theorem SO_done {nB nS nK mi ln zt : Nat} {u v : RS} (hI : MI nB nS nK mi ln u) (h : NA zt u v) (hj : ∃ w : RS, NA zt u w ∧ ¬ w.1 24 = 0 ∧ NA zt w v) (hof : ixN (u.1 29) 8) (hsp : ixN (u.2.2 22 (8 + u.1 29).toNatClampNeg) 12) (i1 i2 : Nat) (x1 x2 : Int32) : SO nB nS nK mi ln zt u (1, sa (sa (sa v 20 i1 x1) 21 i2 x2) 22 (8 + v.1 29).toNatClampNeg (v.2.2 22 (8 + v.1 29).toNatClampNeg + 1)) := by
  obtain ⟨w, hw, hw0, hwv⟩ := hj
  obtain ⟨a1, a2, ⟨i, j, b1, b2, b3, b5, b4⟩, a4⟩ := h
  obtain ⟨-, -, ⟨i7, j7, c1, c2, c3, c5, c4⟩, -⟩ := hw
  obtain ⟨-, -, ⟨i8, j8, d1, d2, d3, d5, d4⟩, -⟩ := hwv
  have hz := a1.1.2
  have e1 : i = i7 := (nI_eq (by omega) (by omega)).mp (b1.symm.trans c1)
  have e2 : j7 = i8 := (nI_eq (by omega) (by omega)).mp (c2.symm.trans d1)
  have e3 : j = j8 := (nI_eq (by omega) (by omega)).mp (b2.symm.trans d2)
  have hlt := c4 hw0
  have o1 : v.1 29 = u.1 29 := a2.2 29 (by decide) (by decide) (by decide) (by decide)
  have hI2 := NX_MI a2 hI
  rw [o1]
  have s1 : v.2.2 22 = u.2.2 22 := by rw [a2.1]
  rw [s1]
  have hs13 : ixN (u.2.2 22 (8 + u.1 29).toNatClampNeg + 1) 13 := by
    obtain ⟨q, hq, eq⟩ := hsp
    rw [eq]
    exact ⟨q + 1, by omega, nI_1 q⟩
  refine ⟨MI_22 (MI_sa (MI_sa hI2 (by decide)) (by decide)) hs13, a1, o1, i, j, b1, b2, b3, b5, fun _ => ⟨by omega, ?_⟩⟩
  exact pk_us
theorem span_so {nB nS nK mi ln zt : Nat} {u : RS} {bar : Int32} (hI : MI nB nS nK mi ln u) (hT : TI zt u) (hof : ixN (u.1 29) 8) (hsp : ixN (u.2.2 22 (8 + u.1 29).toNatClampNeg) 12) : SO nB nS nK mi ln zt u (f_span u bar) := by
  have n1 := next_na hT
  have n2 := n1.tr (next_na n1.1)
  have n3 := n2.tr (next_na n2.1)
  have n4 := n3.tr (next_na n3.1)
  have m2 := next_na n1.1
  have m4 := (next_na n1.1).tr ((next_na n2.1).tr (next_na n3.1))
  rw [f_span_s]
  generalize e1 : f_next u = v1 at n1 n2 n3 n4 m2 m4 ⊢
  generalize e2 : f_next v1 = v2 at n2 n3 n4 m2 m4 ⊢
  generalize e3 : f_next v2 = v3 at n3 n4 m4 ⊢
  generalize e4 : f_next v3 = v4 at n4 m4 ⊢
  by_cases c1 : v1.1 24 = 2
  · rw [if_pos c1]
    have c1' : ¬ v1.1 24 = 0 := by rw [c1]; decide
    repeat' split
    all_goals first
      | exact SO_cant hI n2
      | exact SO_cant hI n3
      | exact SO_stop hI n1 _ _ rfl
      | exact SO_stop hI n3 _ _ rfl
      | exact SO_done hI n2 ⟨v1, n1, c1', m2⟩ hof hsp _ _ _ _
      | exact SO_done hI n4 ⟨v1, n1, c1', m4⟩ hof hsp _ _ _ _
  · rw [if_neg c1]; exact SO_cant hI n1
