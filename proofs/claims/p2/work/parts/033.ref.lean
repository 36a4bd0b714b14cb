theorem MI_pass1 {nB nS nK mi ln : Nat} {b : Int32} : ∀ (n : Nat) (u1 : RS) (k : Nat), k + n = 41 → MI nB nS nK mi ln u1 → MI nB nS nK mi ln (lp_pass1 b n u1 k) := by
  intro n
  induction n with
  | zero => intro u1 k _ h; exact h
  | succ n ih =>
    intro u1 k hk h
    rw [lp_pass1_s]
    split
    · exact h
    · rename_i c1
      have hk2 : k < nS := nltI h.nS.1 (by have := h.nS.2; omega) (by omega) c1
      split
      · rename_i c2
        repeat' split
        all_goals first | exact ih _ _ (by omega) h | exact ih _ _ (by omega) (MI_goThrough h (by rw [nI_clamp (by omega)]; exact h.at k hk2 (Or.inl c2)))
      · exact ih _ _ (by omega) h
theorem lp_pass2_ix {nB nS nK mi ln : Nat} {w : RS} {b : Int32} (h : MI nB nS nK mi ln w) : ∀ (n : Nat) (x : Int32) (k : Nat), k + n = 41 → (x = -1 ∨ ∃ j : Nat, j < nS ∧ x = nI j ∧ w.2.2 32 j = 1) → lp_pass2 b w n x k = -1 ∨ ∃ j : Nat, j < nS ∧ lp_pass2 b w n x k = nI j ∧ w.2.2 32 j = 1 := by
  intro n
  induction n with
  | zero => intro x k _ hx; exact hx
  | succ n ih =>
    intro x k hk hx
    rw [lp_pass2_s]
    split
    · exact hx
    · rename_i c1
      have hk2 : k < nS := nltI h.nS.1 (by have := h.nS.2; omega) (by omega) c1
      split
      · rename_i c2
        repeat' split
        all_goals first | exact ih _ _ (by omega) hx | exact ih _ _ (by omega) (Or.inr ⟨k, hk2, rfl, c2⟩)
      · exact ih _ _ (by omega) hx
theorem MI_pass {nB nS nK mi ln : Nat} {u : RS} {b : Int32} (h : MI nB nS nK mi ln u) : MI nB nS nK mi ln (f_pass u b) := by
  have h1 := MI_pass1 (b := b) 41 u 0 rfl h
  have h2 := lp_pass2_ix (b := b) h1 41 (-1) 0 rfl (Or.inl rfl)
  rw [f_pass_s]
  repeat' split
  all_goals first
    | exact h1
    | (rename_i c9
       obtain ⟨j, hj, ej, aj⟩ := h2.resolve_left (fun e9 => c9 (by rw [e9]; decide))
       refine MI_goThrough h1 ?_
       rw [ej, nI_clamp (by have := h1.nS.2; omega)]
       exact h1.at j hj (Or.inl aj))
theorem MI_come1 {nB nS nK mi ln : Nat} : ∀ (n : Nat) (u1 : RS) (k : Nat), k + n = 41 → MI nB nS nK mi ln u1 → MI nB nS nK mi ln (lp_come1 n u1 k) := by
  intro n
  induction n with
  | zero => intro u1 k _ h; exact h
  | succ n ih =>
    intro u1 k hk h
    rw [lp_come1_s]
    by_cases c1 : u1.1 40 ≤ nI k
    · rw [if_pos c1]; exact h
    · rw [if_neg c1]
      have hk2 : k < nS := nltI h.nS.1 (by have := h.nS.2; omega) (by omega) c1
      have hb : 0 < nB := h.sb (by omega)
      have key : ∀ v : Int32, ixN v nB → MI nB nS nK mi ln (sa (sa (sa u1 33 k v) 32 k 1) 35 k (u1.1 18)) := fun v hv => MI_sa (MI_32 (MI_33 h hv) (fun _ => (show ixN (upd (u1.2.2 33) k v k) nB by rw [pk_us]; exact hv))) (by decide)
      by_cases c2 : u1.2.2 32 k = 0
      · rw [if_pos c2]
        repeat' split
        all_goals first | exact ih _ _ (by omega) h | exact ih _ _ (by omega) (key _ (first_ix h hb _))
      · rw [if_neg c2]
        by_cases c3 : u1.2.2 32 k = 2
        · rw [if_pos c3]
          repeat' split
          all_goals first | exact ih _ _ (by omega) h | exact ih _ _ (by omega) (key _ (h.at k hk2 (Or.inr c3)))
        · rw [if_neg c3]; exact ih _ _ (by omega) h
theorem MI_come2 {nB nS nK mi ln : Nat} : ∀ (n : Nat) (u1 : RS) (k : Nat), k + n = 5 → MI nB nS nK mi ln u1 → MI nB nS nK mi ln (lp_come2 n u1 k) := by
  intro n
  induction n with
  | zero => intro u1 k _ h; exact h
  | succ n ih =>
    intro u1 k hk h
    rw [lp_come2_s]
    split
    · exact h
    · rename_i c1
      have hk2 : k < nK := nltI h.nK.1 (by have := h.nK.2; omega) (by omega) c1
      repeat' split
      all_goals first | exact ih _ _ (by omega) h | exact ih _ _ (by omega) (MI_sa (MI_42 (MI_41 h (h.kT k hk2)) (Or.inl rfl)) (by decide))
theorem MI_come3 {nB nS nK mi ln : Nat} : ∀ (n : Nat) (u1 : RS) (k : Nat), MI nB nS nK mi ln u1 → MI nB nS nK mi ln (lp_come3 n u1 k) := by
  intro n
  induction n with
  | zero => intro u1 k h; exact h
  | succ n ih =>
    intro u1 k h
    rw [lp_come3_s]
    repeat' split
    all_goals first | exact h | exact ih _ _ h | exact ih _ _ (MI_sa (MI_sa h (by decide)) (by decide))
theorem MI_come {nB nS nK mi ln : Nat} {u : RS} (h : MI nB nS nK mi ln u) : MI nB nS nK mi ln (f_come u) := by
  rw [f_come_s]
  exact MI_come3 _ _ _ (MI_come2 _ _ _ rfl (MI_come1 _ _ _ rfl h))
def lp_go5  : Nat → RS → Nat → RS
  | 0, v5, j => v5
  | n + 1, v5, j => (if v5.1 17 ≤ nI j then v5 else (if v5.2.2 11 j = 0 then (if v5.2.2 10 j ≤ ((v5.2.2 13 j) + (v5.2.2 9 j)) then (lp_go5  n (sa (sa (sa v5 13 j ((v5.2.2 13 j) + (v5.2.2 9 j))) 13 j (((v5.2.2 13 j) + (v5.2.2 9 j)) - (v5.2.2 10 j))) 15 j ((v5.2.2 15 j) + (((v5.2.2 13 j) + (v5.2.2 9 j)) - (v5.2.2 10 j)))) (j + 1)) else (lp_go5  n (sa (sa (sa v5 13 j ((v5.2.2 13 j) + (v5.2.2 9 j))) 13 j (((v5.2.2 13 j) + (v5.2.2 9 j)) - ((v5.2.2 13 j) + (v5.2.2 9 j)))) 15 j ((v5.2.2 15 j) + (((v5.2.2 13 j) + (v5.2.2 9 j)) - ((v5.2.2 13 j) + (v5.2.2 9 j))))) (j + 1))) else (lp_go5  n (sa (sa v5 13 j ((v5.2.2 13 j) + (v5.2.2 9 j))) 15 j ((v5.2.2 15 j) + ((v5.2.2 13 j) + (v5.2.2 9 j)))) (j + 1))))
theorem lp_go5_s  (n : Nat) (v5 : RS) (j : Nat) : lp_go5  (n + 1) v5 j = (if v5.1 17 ≤ nI j then v5 else (if v5.2.2 11 j = 0 then (if v5.2.2 10 j ≤ ((v5.2.2 13 j) + (v5.2.2 9 j)) then (lp_go5  n (sa (sa (sa v5 13 j ((v5.2.2 13 j) + (v5.2.2 9 j))) 13 j (((v5.2.2 13 j) + (v5.2.2 9 j)) - (v5.2.2 10 j))) 15 j ((v5.2.2 15 j) + (((v5.2.2 13 j) + (v5.2.2 9 j)) - (v5.2.2 10 j)))) (j + 1)) else (lp_go5  n (sa (sa (sa v5 13 j ((v5.2.2 13 j) + (v5.2.2 9 j))) 13 j (((v5.2.2 13 j) + (v5.2.2 9 j)) - ((v5.2.2 13 j) + (v5.2.2 9 j)))) 15 j ((v5.2.2 15 j) + (((v5.2.2 13 j) + (v5.2.2 9 j)) - ((v5.2.2 13 j) + (v5.2.2 9 j))))) (j + 1))) else (lp_go5  n (sa (sa v5 13 j ((v5.2.2 13 j) + (v5.2.2 9 j))) 15 j ((v5.2.2 15 j) + ((v5.2.2 13 j) + (v5.2.2 9 j)))) (j + 1)))) := rfl
def lp_go4  : Nat → RS → Nat → RS
  | 0, v4, j => v4
  | n + 1, v4, j => (if v4.1 44 ≤ nI j then v4 else (lp_go4  n (f_send v4 (nI j)) (j + 1)))
theorem lp_go4_s  (n : Nat) (v4 : RS) (j : Nat) : lp_go4  (n + 1) v4 j = (if v4.1 44 ≤ nI j then v4 else (lp_go4  n (f_send v4 (nI j)) (j + 1))) := rfl
def lp_go3  : Nat → RS → Nat → RS
  | 0, v3, j => v3
  | n + 1, v3, j => (if v3.1 17 ≤ nI j then v3 else (lp_go3  n (f_turn v3 (nI j)) (j + 1)))
theorem lp_go3_s  (n : Nat) (v3 : RS) (j : Nat) : lp_go3  (n + 1) v3 j = (if v3.1 17 ≤ nI j then v3 else (lp_go3  n (f_turn v3 (nI j)) (j + 1))) := rfl
def lp_go2  : Nat → RS → Nat → RS
  | 0, v2, j => v2
  | n + 1, v2, j => (if v2.1 40 ≤ nI j then v2 else (if v2.2.2 32 j = 1 then (lp_go2  n (sa v2 36 j ((v2.2.2 36 j) + 1)) (j + 1)) else (lp_go2  n (sa v2 36 j ((v2.2.2 36 j) + 0)) (j + 1))))
theorem lp_go2_s  (n : Nat) (v2 : RS) (j : Nat) : lp_go2  (n + 1) v2 j = (if v2.1 40 ≤ nI j then v2 else (if v2.2.2 32 j = 1 then (lp_go2  n (sa v2 36 j ((v2.2.2 36 j) + 1)) (j + 1)) else (lp_go2  n (sa v2 36 j ((v2.2.2 36 j) + 0)) (j + 1)))) := rfl
def lp_go1  : Nat → RS → Nat → RS
  | 0, v1, j => v1
  | n + 1, v1, j => (if v1.1 17 ≤ nI j then v1 else (lp_go1  n (f_pass v1 (nI j)) (j + 1)))
theorem lp_go1_s  (n : Nat) (v1 : RS) (j : Nat) : lp_go1  (n + 1) v1 j = (if v1.1 17 ≤ nI j then v1 else (lp_go1  n (f_pass v1 (nI j)) (j + 1))) := rfl
def lp_go (nm : Int32) : Nat → RS → Nat → RS
  | 0, u1, k => u1
  | n + 1, u1, k => (if nm ≤ nI k then u1 else (if 1440 ≤ u1.1 18 then u1 else (lp_go nm n (sg (lp_go5  9 (lp_go4  5 (lp_go3  9 (lp_go2  41 (lp_go1  9 (f_come u1) 0) 0) 0) 0) 0) 18 (((lp_go5  9 (lp_go4  5 (lp_go3  9 (lp_go2  41 (lp_go1  9 (f_come u1) 0) 0) 0) 0) 0).1 18) + 1)) (k + 1))))
theorem lp_go_s (nm : Int32) (n : Nat) (u1 : RS) (k : Nat) : lp_go nm (n + 1) u1 k = (if nm ≤ nI k then u1 else (if 1440 ≤ u1.1 18 then u1 else (lp_go nm n (sg (lp_go5  9 (lp_go4  5 (lp_go3  9 (lp_go2  41 (lp_go1  9 (f_come u1) 0) 0) 0) 0) 0) 18 (((lp_go5  9 (lp_go4  5 (lp_go3  9 (lp_go2  41 (lp_go1  9 (f_come u1) 0) 0) 0) 0) 0).1 18) + 1)) (k + 1)))) := rfl
def f_go (u : RS) (nm : Int32) : Int32 × RS := (if f_isIn (sg u 0 0) nm 0 1440 = 0 then (-1, (sg u 0 0)) else ((lp_go nm 1441 (sg u 0 0) 0).1 18, (lp_go nm 1441 (sg u 0 0) 0)))
theorem f_go_s (u : RS) (nm : Int32) : f_go u nm = (if f_isIn (sg u 0 0) nm 0 1440 = 0 then (-1, (sg u 0 0)) else ((lp_go nm 1441 (sg u 0 0) 0).1 18, (lp_go nm 1441 (sg u 0 0) 0))) := rfl
theorem im_X9_go_X9 : ∀ w ∈ wsX90, w ∈ wsX9_go := fun _ h => List.mem_cons_of_mem _ (List.mem_append_right _ h)
set_option maxHeartbeats 400000 in
set_option maxRecDepth 100000 in
theorem m_go (l : Launch) (D : va_G) (cI cZ cB cO cJ : ClassId) (a0 sz : Nat) (a : Nat → Nat) (nB nS nK mi ln : Nat) (u : RS) (nm : Int32) (hI : MI nB nS nK mi ln u) : Met l yX9_go wsX9_go ({ frames := 3, cells := 0, slots := 0, locals := 68 }) (Pcs D cI cZ cB cO cJ a0 [.ref (a 45), .int nm] (WM cI cZ cB a u) sz) (va_Qi (fun (r : Int32) (_ : Unit) => r = (f_go u nm).1) (fun (_ : Unit) t => va_P D vwCl (WM cI cZ cB a (f_go u nm).2) t.heap ∧ va_D (va_A (WM cI cZ cB a u) sz) (WM cI cZ cB a (f_go u nm).2)) (va_A (WM cI cZ cB a u) sz)) 0 0 (va_A (WM cI cZ cB a u) sz) := by
  refine Met.ofW (cc := cX9_go) (maxL := 4) (ret := (some .int)) (by decide) rfl ?_
  intro p e s m args below meth c s₁ B hml hv
  obtain ⟨rfl, hsz, hP, hE, hD0, hZ⟩ := hv
  have hx := B.exec
  have hb := B.bytes
  have hr := B.returns
  have hts := atoms_spec (ws := wsX9_go) B.pre
  have hown : s.vm.findClass RX9 = some m.cls := findClass_of_methodNamed B.named
  have hlocks := B.notSynchronized
  subst hsz
  have hD := hD0.self (sz := s.heap.size)
  generalize hAe : va_A (WM cI cZ cB a u) s.heap.size = A at hD hZ ⊢
  have hA : ∀ q : Nat, s.heap.size ≤ q → A q := fun q h => by rw [← hAe]; exact Or.inr h
  clear hAe
  have hS : va_S A s.heap s.heap [] := va_S.rf
  have hP : va_P D vwCl (WM cI cZ cB a u) s.heap := hP
  have hl := lv_entry ([.ref (a 45), .int nm]) (n := 4) (Nat.le_of_ble_eq_true rfl)
  rw [lg_entry_eq]
  generalize (lg_sl ([.ref (a 45), .int nm]) ++ List.replicate (4 - (lg_sl ([.ref (a 45), .int nm])).length) Slot.unset).toArray = ls at hl ⊢
  have hl : lv_has ls 4 [(0, .ref (a 45)), (1, .int nm)] := hl
  have hf := f_go_s u nm
  refine lv_aload_n hx hb dX9_go_0 rfl (lv_at hl 0 rfl) ?_
  refine lv_iconst (v := 0) hx hb dX9_go_1 (by decide) ?_
  refine va_put (D := D) (ci := 10) (v := .int 0) (ty := .int) (C := RX9) (T := TX9) (N := 45) hx hb hts im_X9_go_X9 tyX9 tyX9_ok nmX9 hown hE.1 hP hD hS 0 rfl rfl 0 (by decide) (hts (.fieldLink RX9 103 "RiverBridgesModel" "thrown" "I") (by decide +kernel)) (fun _ h9 => h9) rfl (by decide +kernel) rfl rfl (Nat.le_of_ble_eq_true rfl) dX9_go_2 (fun H locs hP hD hS => ?_)
  have hP := va_P_eq (WM_g0 cI cZ cB a u 0) hP
  have hD := va_D_eq (WM_g0 cI cZ cB a u 0) hD
  refine lv_iload_n hx hb dX9_go_5 rfl (lv_at hl 1 rfl) ?_
  refine lv_iconst (v := 0) hx hb dX9_go_6 (by decide) ?_
  refine lv_sipush (v := 1440) hx hb dX9_go_7 (by decide) ?_
  refine sf_calli (va_runS (As := [.int nm, .int 0, .int 1440]) (rest := []) ⟨hx, hb, hml, hown, hts⟩ (m_isIn l D cI cZ cB cO cJ a0 H.size a  (sg u 0 0) nm 0 1440 ) (cwS 3 hts gX9_go_X9_isIn rfl rfl rfl (by decide +kernel) ⟨Nat.le_of_ble_eq_true rfl, Nat.le_of_ble_eq_true rfl⟩) (preS_full hE hZ hA hS hP hD) rfl rfl hl.1 rfl (lv_room (Nat.le_of_ble_eq_true rfl)) dX9_go_10 ⟨Nat.le_of_ble_eq_true rfl, Nat.le_of_ble_eq_true rfl⟩) hP hD hS hA (fun r9 u9 H locs hw hP hD hS => ?_)
  subst hw
  have hP : va_P D vwCl (WM cI cZ cB a (sg u 0 0)) H := hP
  have hD : va_D A (WM cI cZ cB a (sg u 0 0)) := hD
  refine lv_if_ne (tgt := 18) hx hb dX9_go_13 (by decide) (fun cin => ?_) (fun cin => ?_)
  · replace hf := hf.trans (if_neg cin)
    obtain ⟨N, hN, eN⟩ := isIn_ix (n := 1440) (by decide) cin
    refine lv_iconst (v := 0) hx hb dX9_go_18 (by decide) ?_
    refine lv_istore_n (lv' := [(2, .int 0), (0, .ref (a 45)), (1, .int nm)]) hx hb dX9_go_19 rfl hl (by decide) rfl (fun ls hl => ?_)
    have hf_lp_go := hf
    refine ss_ind (J := fun n H locs ls => ∃ (u1 : RS) (k : Nat), (k + n = 1441) ∧ (k ≤ N) ∧ (∃ m1 : Nat, MI nB nS nK m1 ln u1) ∧ va_P D vwCl (WM cI cZ cB a u1) H ∧ va_D A (WM cI cZ cB a u1) ∧ va_S A s.heap H locs ∧ lv_has ls 4 [(2, .int (nI k)), (0, .ref (a 45)), (1, .int nm)] ∧ lp_go nm 1441 (sg u 0 0) 0 = lp_go nm n u1 k) ?_ ?_ (1441) _ _ _ ⟨(sg u 0 0), 0, (rfl), (Nat.zero_le _), (⟨mi, MI_sg hI (by decide)⟩), hP, hD, hS, (lv_sub hl [0, 1, 2] rfl), rfl⟩
    all_goals clear hf
    · intro H locs ls hJ
      obtain ⟨u1, k, hkn, hkw, hm, hP, hD, hS, hl, hf⟩ := hJ
      omega
    · intro n_lp_go ih_lp_go H locs ls hJ
      obtain ⟨u1, k, hkn, hkw, hm, hP, hD, hS, hl, hf⟩ := hJ
      replace hf := hf.trans (lp_go_s _ n_lp_go _ _)
      obtain ⟨m1, hI1⟩ := hm
      refine lv_iload_n hx hb dX9_go_20 rfl (lv_at hl 0 rfl) ?_
      refine lv_iload_n hx hb dX9_go_21 rfl (lv_at hl 2 rfl) ?_
      refine lv_icmp_ge (tgt := 252) hx hb dX9_go_22 (by decide) (fun ck => ?_) (fun ck => ?_)
      · replace hf := hf.trans (if_pos ck)
        have e90 : (lp_go nm 1441 (sg u 0 0) 0) = u1 := by rw [hf]
        clear hf
        have hf := hf_lp_go
        try rw [e90] at hf
        clear ih_lp_go e90
        have hl : lv_has ls 4 [(0, .ref (a 45)), (1, .int nm)] := lv_sub hl [1, 2] rfl
        refine lv_aload_n hx hb dX9_go_252 rfl (lv_at hl 0 rfl) ?_
        refine va_get (D := D) (ci := 10) (v := .int (u1.1 18)) (C := RX9) (T := TX9) (N := 45) hx hb hts im_X9_go_X9 hown hE.1 hP 0 rfl rfl 18 (by decide) (hts (.fieldLink RX9 122 "RiverBridgesModel" "minute" "I") (by decide +kernel)) (fun _ h9 => h9) rfl dX9_go_253 ?_
        exact ss_iret () hx hb hr hlocks (by rw [hf]; exact hP) (by rw [hf]; exact hD) hS (by rw [hf]) (Nat.le_of_ble_eq_true rfl) (Nat.le_of_ble_eq_true rfl) dX9_go_256
      · replace hf := hf.trans (if_neg ck)
        have hk : k < N := nltI eN (by omega) (by omega) ck
        refine lv_aload_n hx hb dX9_go_25 rfl (lv_at hl 1 rfl) ?_
        refine va_get (D := D) (ci := 10) (v := .int (u1.1 18)) (C := RX9) (T := TX9) (N := 45) hx hb hts im_X9_go_X9 hown hE.1 hP 0 rfl rfl 18 (by decide) (hts (.fieldLink RX9 122 "RiverBridgesModel" "minute" "I") (by decide +kernel)) (fun _ h9 => h9) rfl dX9_go_26 ?_
        refine lv_sipush (v := 1440) hx hb dX9_go_29 (by decide) ?_
        refine lv_icmp_ge (tgt := 252) hx hb dX9_go_32 (by decide) (fun cm => ?_) (fun cm => ?_)
        · replace hf := hf.trans (if_pos cm)
          have e90 : (lp_go nm 1441 (sg u 0 0) 0) = u1 := by rw [hf]
          clear hf
          have hf := hf_lp_go
          try rw [e90] at hf
          clear ih_lp_go e90
          have hl : lv_has ls 4 [(0, .ref (a 45)), (1, .int nm)] := lv_sub hl [1, 2] rfl
          refine lv_aload_n hx hb dX9_go_252 rfl (lv_at hl 0 rfl) ?_
          refine va_get (D := D) (ci := 10) (v := .int (u1.1 18)) (C := RX9) (T := TX9) (N := 45) hx hb hts im_X9_go_X9 hown hE.1 hP 0 rfl rfl 18 (by decide) (hts (.fieldLink RX9 122 "RiverBridgesModel" "minute" "I") (by decide +kernel)) (fun _ h9 => h9) rfl dX9_go_253 ?_
          exact ss_iret () hx hb hr hlocks (by rw [hf]; exact hP) (by rw [hf]; exact hD) hS (by rw [hf]) (Nat.le_of_ble_eq_true rfl) (Nat.le_of_ble_eq_true rfl) dX9_go_256
        · replace hf := hf.trans (if_neg cm)
          have hm1 : m1 < 1440 := by rw [hI1.mi.1] at cm; exact Nat.lt_of_not_le (fun e9 => cm (nI_le e9 (by have := hI1.mi.2; omega)))
          refine lv_aload_n hx hb dX9_go_35 rfl (lv_at hl 1 rfl) ?_
          refine sf_callv (va_runV (As := []) (rest := []) ⟨hx, hb, hml, hown, hts⟩ (m_come l D cI cZ cB cO cJ a0 H.size a _ _ _ _ _  u1  (hI1)) (cwV 0 hts gX9_go_X9_come rfl rfl rfl (by decide +kernel) ⟨Nat.le_of_ble_eq_true rfl, Nat.le_of_ble_eq_true rfl⟩) (preV_full hE hZ hA hS hP hD (va_recv hE.1 hP (ci := 10) (q0 := 0) rfl rfl)) rfl rfl hl.1 rfl (lv_room (Nat.le_of_ble_eq_true rfl)) dX9_go_36 ⟨Nat.le_of_ble_eq_true rfl, Nat.le_of_ble_eq_true rfl⟩) hP hD hS hA (fun u9 H locs hw hP hD hS => ?_)
          have hP : va_P D vwCl (WM cI cZ cB a (f_come u1)) H := hP
          have hD : va_D A (WM cI cZ cB a (f_come u1)) := hD
          have hI2 := MI_come hI1
          refine lv_iconst (v := 0) hx hb dX9_go_39 (by decide) ?_
          refine lv_istore_n (lv' := [(3, .int 0), (2, .int (nI k)), (0, .ref (a 45)), (1, .int nm)]) hx hb dX9_go_40 rfl hl (by decide) rfl (fun ls hl => ?_)
          have hf_lp_go1 := hf
          refine ss_ind (J := fun n H locs ls => ∃ (v1 : RS) (j : Nat), (j + n = 9) ∧ (j ≤ nB) ∧ (MI nB nS nK m1 ln v1) ∧ va_P D vwCl (WM cI cZ cB a v1) H ∧ va_D A (WM cI cZ cB a v1) ∧ va_S A s.heap H locs ∧ lv_has ls 4 [(3, .int (nI j)), (2, .int (nI k)), (0, .ref (a 45)), (1, .int nm)] ∧ lp_go1  9 (f_come u1) 0 = lp_go1  n v1 j) ?_ ?_ (9) _ _ _ ⟨(f_come u1), 0, (rfl), (Nat.zero_le _), (hI2), hP, hD, hS, (lv_sub hl [0, 1, 2, 3] rfl), rfl⟩
          all_goals clear hf
          · intro H locs ls hJ
            obtain ⟨v1, j, hjn, hjw, hI2, hP, hD, hS, hl, hf⟩ := hJ
            have := hI2.nB.2; omega
          · intro n_lp_go1 ih_lp_go1 H locs ls hJ
            obtain ⟨v1, j, hjn, hjw, hI2, hP, hD, hS, hl, hf⟩ := hJ
            replace hf := hf.trans (lp_go1_s  n_lp_go1 _ _)
            refine lv_iload_n hx hb dX9_go_41 rfl (lv_at hl 0 rfl) ?_
            refine lv_aload_n hx hb dX9_go_42 rfl (lv_at hl 2 rfl) ?_
            refine va_get (D := D) (ci := 10) (v := .int (v1.1 17)) (C := RX9) (T := TX9) (N := 45) hx hb hts im_X9_go_X9 hown hE.1 hP 0 rfl rfl 17 (by decide) (hts (.fieldLink RX9 119 "RiverBridgesModel" "bridges" "I") (by decide +kernel)) (fun _ h9 => h9) rfl dX9_go_43 ?_
            refine lv_icmp_ge (tgt := 60) hx hb dX9_go_46 (by decide) (fun cj => ?_) (fun cj => ?_)
            · replace hf := hf.trans (if_pos cj)
              have e90 : (lp_go1  9 (f_come u1) 0) = v1 := by rw [hf]
              clear hf
              have hf := hf_lp_go1
              try rw [e90] at hf
              clear ih_lp_go1 e90
              have hl : lv_has ls 4 [(2, .int (nI k)), (0, .ref (a 45)), (1, .int nm)] := lv_sub hl [1, 2, 3] rfl
              refine lv_iconst (v := 0) hx hb dX9_go_60 (by decide) ?_
              refine lv_istore_n (lv' := [(3, .int 0), (2, .int (nI k)), (0, .ref (a 45)), (1, .int nm)]) hx hb dX9_go_61 rfl hl (by decide) rfl (fun ls hl => ?_)
              have hf_lp_go2 := hf
              refine ss_ind (J := fun n H locs ls => ∃ (v2 : RS) (j : Nat), (j + n = 41) ∧ (j ≤ nS) ∧ (MI nB nS nK m1 ln v2) ∧ va_P D vwCl (WM cI cZ cB a v2) H ∧ va_D A (WM cI cZ cB a v2) ∧ va_S A s.heap H locs ∧ lv_has ls 4 [(3, .int (nI j)), (2, .int (nI k)), (0, .ref (a 45)), (1, .int nm)] ∧ lp_go2  41 v1 0 = lp_go2  n v2 j) ?_ ?_ (41) _ _ _ ⟨v1, 0, (rfl), (Nat.zero_le _), (hI2), hP, hD, hS, (lv_sub hl [0, 1, 2, 3] rfl), rfl⟩
              all_goals clear hf
              · intro H locs ls hJ
                obtain ⟨v2, j, hjn, hjw, hI2, hP, hD, hS, hl, hf⟩ := hJ
                have := hI2.nS.2; omega
              · intro n_lp_go2 ih_lp_go2 H locs ls hJ
                obtain ⟨v2, j, hjn, hjw, hI2, hP, hD, hS, hl, hf⟩ := hJ
                replace hf := hf.trans (lp_go2_s  n_lp_go2 _ _)
                refine lv_iload_n hx hb dX9_go_62 rfl (lv_at hl 0 rfl) ?_
                refine lv_aload_n hx hb dX9_go_63 rfl (lv_at hl 2 rfl) ?_
                refine va_get (D := D) (ci := 10) (v := .int (v2.1 40)) (C := RX9) (T := TX9) (N := 45) hx hb hts im_X9_go_X9 hown hE.1 hP 0 rfl rfl 40 (by decide) (hts (.fieldLink RX9 208 "RiverBridgesModel" "ships" "I") (by decide +kernel)) (fun _ h9 => h9) rfl dX9_go_64 ?_
                refine lv_icmp_ge (tgt := 100) hx hb dX9_go_67 (by decide) (fun cj => ?_) (fun cj => ?_)
                · replace hf := hf.trans (if_pos cj)
                  have e90 : (lp_go2  41 v1 0) = v2 := by rw [hf]
                  clear hf
                  have hf := hf_lp_go2
                  try rw [e90] at hf
                  clear ih_lp_go2 e90
                  have hl : lv_has ls 4 [(2, .int (nI k)), (0, .ref (a 45)), (1, .int nm)] := lv_sub hl [1, 2, 3] rfl
                  refine lv_iconst (v := 0) hx hb dX9_go_100 (by decide) ?_
                  refine lv_istore_n (lv' := [(3, .int 0), (2, .int (nI k)), (0, .ref (a 45)), (1, .int nm)]) hx hb dX9_go_101 rfl hl (by decide) rfl (fun ls hl => ?_)
                  have hf_lp_go3 := hf
                  refine ss_ind (J := fun n H locs ls => ∃ (v3 : RS) (j : Nat), (j + n = 9) ∧ (j ≤ nB) ∧ (MI nB nS nK m1 ln v3) ∧ va_P D vwCl (WM cI cZ cB a v3) H ∧ va_D A (WM cI cZ cB a v3) ∧ va_S A s.heap H locs ∧ lv_has ls 4 [(3, .int (nI j)), (2, .int (nI k)), (0, .ref (a 45)), (1, .int nm)] ∧ lp_go3  9 v2 0 = lp_go3  n v3 j) ?_ ?_ (9) _ _ _ ⟨v2, 0, (rfl), (Nat.zero_le _), (hI2), hP, hD, hS, (lv_sub hl [0, 1, 2, 3] rfl), rfl⟩
                  all_goals clear hf
                  · intro H locs ls hJ
                    obtain ⟨v3, j, hjn, hjw, hI2, hP, hD, hS, hl, hf⟩ := hJ
                    have := hI2.nB.2; omega
                  · intro n_lp_go3 ih_lp_go3 H locs ls hJ
                    obtain ⟨v3, j, hjn, hjw, hI2, hP, hD, hS, hl, hf⟩ := hJ
                    replace hf := hf.trans (lp_go3_s  n_lp_go3 _ _)
                    refine lv_iload_n hx hb dX9_go_102 rfl (lv_at hl 0 rfl) ?_
                    refine lv_aload_n hx hb dX9_go_103 rfl (lv_at hl 2 rfl) ?_
                    refine va_get (D := D) (ci := 10) (v := .int (v3.1 17)) (C := RX9) (T := TX9) (N := 45) hx hb hts im_X9_go_X9 hown hE.1 hP 0 rfl rfl 17 (by decide) (hts (.fieldLink RX9 119 "RiverBridgesModel" "bridges" "I") (by decide +kernel)) (fun _ h9 => h9) rfl dX9_go_104 ?_
                    refine lv_icmp_ge (tgt := 121) hx hb dX9_go_107 (by decide) (fun cj => ?_) (fun cj => ?_)
                    · replace hf := hf.trans (if_pos cj)
                      have e90 : (lp_go3  9 v2 0) = v3 := by rw [hf]
                      clear hf
                      have hf := hf_lp_go3
                      try rw [e90] at hf
                      clear ih_lp_go3 e90
                      have hl : lv_has ls 4 [(2, .int (nI k)), (0, .ref (a 45)), (1, .int nm)] := lv_sub hl [1, 2, 3] rfl
                      refine lv_iconst (v := 0) hx hb dX9_go_121 (by decide) ?_
                      refine lv_istore_n (lv' := [(3, .int 0), (2, .int (nI k)), (0, .ref (a 45)), (1, .int nm)]) hx hb dX9_go_122 rfl hl (by decide) rfl (fun ls hl => ?_)
                      have hf_lp_go4 := hf
                      refine ss_ind (J := fun n H locs ls => ∃ (v4 : RS) (j : Nat), (j + n = 5) ∧ (j ≤ nK) ∧ (MI nB nS nK m1 ln v4) ∧ va_P D vwCl (WM cI cZ cB a v4) H ∧ va_D A (WM cI cZ cB a v4) ∧ va_S A s.heap H locs ∧ lv_has ls 4 [(3, .int (nI j)), (2, .int (nI k)), (0, .ref (a 45)), (1, .int nm)] ∧ lp_go4  5 v3 0 = lp_go4  n v4 j) ?_ ?_ (5) _ _ _ ⟨v3, 0, (rfl), (Nat.zero_le _), (hI2), hP, hD, hS, (lv_sub hl [0, 1, 2, 3] rfl), rfl⟩
                      all_goals clear hf
                      · intro H locs ls hJ
                        obtain ⟨v4, j, hjn, hjw, hI2, hP, hD, hS, hl, hf⟩ := hJ
                        have := hI2.nK.2; omega
                      · intro n_lp_go4 ih_lp_go4 H locs ls hJ
                        obtain ⟨v4, j, hjn, hjw, hI2, hP, hD, hS, hl, hf⟩ := hJ
                        replace hf := hf.trans (lp_go4_s  n_lp_go4 _ _)
                        refine lv_iload_n hx hb dX9_go_123 rfl (lv_at hl 0 rfl) ?_
                        refine lv_aload_n hx hb dX9_go_124 rfl (lv_at hl 2 rfl) ?_
                        refine va_get (D := D) (ci := 10) (v := .int (v4.1 44)) (C := RX9) (T := TX9) (N := 45) hx hb hts im_X9_go_X9 hown hE.1 hP 0 rfl rfl 44 (by decide) (hts (.fieldLink RX9 215 "RiverBridgesModel" "keepers" "I") (by decide +kernel)) (fun _ h9 => h9) rfl dX9_go_125 ?_
                        refine lv_icmp_ge (tgt := 142) hx hb dX9_go_128 (by decide) (fun cj => ?_) (fun cj => ?_)
                        · replace hf := hf.trans (if_pos cj)
                          have e90 : (lp_go4  5 v3 0) = v4 := by rw [hf]
                          clear hf
                          have hf := hf_lp_go4
                          try rw [e90] at hf
                          clear ih_lp_go4 e90
                          have hl : lv_has ls 4 [(2, .int (nI k)), (0, .ref (a 45)), (1, .int nm)] := lv_sub hl [1, 2, 3] rfl
                          refine lv_iconst (v := 0) hx hb dX9_go_142 (by decide) ?_
                          refine lv_istore_n (lv' := [(3, .int 0), (2, .int (nI k)), (0, .ref (a 45)), (1, .int nm)]) hx hb dX9_go_143 rfl hl (by decide) rfl (fun ls hl => ?_)
                          have hf_lp_go5 := hf
                          refine ss_ind (J := fun n H locs ls => ∃ (v5 : RS) (j : Nat), (j + n = 9) ∧ (j ≤ nB) ∧ (MI nB nS nK m1 ln v5) ∧ va_P D vwCl (WM cI cZ cB a v5) H ∧ va_D A (WM cI cZ cB a v5) ∧ va_S A s.heap H locs ∧ lv_has ls 4 [(3, .int (nI j)), (2, .int (nI k)), (0, .ref (a 45)), (1, .int nm)] ∧ lp_go5  9 v4 0 = lp_go5  n v5 j) ?_ ?_ (9) _ _ _ ⟨v4, 0, (rfl), (Nat.zero_le _), (hI2), hP, hD, hS, (lv_sub hl [0, 1, 2, 3] rfl), rfl⟩
                          all_goals clear hf
                          · intro H locs ls hJ
                            obtain ⟨v5, j, hjn, hjw, hI2, hP, hD, hS, hl, hf⟩ := hJ
                            have := hI2.nB.2; omega
                          · intro n_lp_go5 ih_lp_go5 H locs ls hJ
                            obtain ⟨v5, j, hjn, hjw, hI2, hP, hD, hS, hl, hf⟩ := hJ
                            replace hf := hf.trans (lp_go5_s  n_lp_go5 _ _)
                            refine lv_iload_n hx hb dX9_go_144 rfl (lv_at hl 0 rfl) ?_
                            refine lv_aload_n hx hb dX9_go_145 rfl (lv_at hl 2 rfl) ?_
                            refine va_get (D := D) (ci := 10) (v := .int (v5.1 17)) (C := RX9) (T := TX9) (N := 45) hx hb hts im_X9_go_X9 hown hE.1 hP 0 rfl rfl 17 (by decide) (hts (.fieldLink RX9 119 "RiverBridgesModel" "bridges" "I") (by decide +kernel)) (fun _ h9 => h9) rfl dX9_go_146 ?_
                            refine lv_icmp_ge (tgt := 236) hx hb dX9_go_149 (by decide) (fun cj => ?_) (fun cj => ?_)
                            · replace hf := hf.trans (if_pos cj)
                              have e90 : (lp_go5  9 v4 0) = v5 := by rw [hf]
                              clear hf
                              have hf := hf_lp_go5
                              try rw [e90] at hf
                              clear ih_lp_go5 e90
                              have hl : lv_has ls 4 [(2, .int (nI k)), (0, .ref (a 45)), (1, .int nm)] := lv_sub hl [1, 2, 3] rfl
                              refine lv_aload_n hx hb dX9_go_236 rfl (lv_at hl 1 rfl) ?_
                              refine lv_dup hx hb dX9_go_237 rfl ?_
                              refine va_get (D := D) (ci := 10) (v := .int (v5.1 18)) (C := RX9) (T := TX9) (N := 45) hx hb hts im_X9_go_X9 hown hE.1 hP 0 rfl rfl 18 (by decide) (hts (.fieldLink RX9 122 "RiverBridgesModel" "minute" "I") (by decide +kernel)) (fun _ h9 => h9) rfl dX9_go_238 ?_
                              refine lv_iconst (v := 1) hx hb dX9_go_241 (by decide) ?_
                              refine lx_iadd (v := (v5.1 18) + 1) hx hb (rfl) dX9_go_242 ?_
                              refine va_put (D := D) (ci := 10) (v := .int ((v5.1 18) + 1)) (ty := .int) (C := RX9) (T := TX9) (N := 45) hx hb hts im_X9_go_X9 tyX9 tyX9_ok nmX9 hown hE.1 hP hD hS 0 rfl rfl 18 (by decide) (hts (.fieldLink RX9 122 "RiverBridgesModel" "minute" "I") (by decide +kernel)) (fun _ h9 => h9) rfl (by decide +kernel) rfl rfl (Nat.le_of_ble_eq_true rfl) dX9_go_243 (fun H locs hP hD hS => ?_)
                              have hP := va_P_eq (WM_g18 cI cZ cB a v5 ((v5.1 18) + 1)) hP
                              have hD := va_D_eq (WM_g18 cI cZ cB a v5 ((v5.1 18) + 1)) hD
                              refine lv_iinc (v := nI (k + 1)) (lv' := [(2, .int (nI (k + 1))), (0, .ref (a 45)), (1, .int nm)]) hx hb dX9_go_246 hl (k := 0) rfl (by first | exact nI_add _ _ | rfl) (by decide) rfl (fun ls hl => ?_)
                              refine lv_goto (tgt := 20) hx hb dX9_go_249 (by decide) ?_
                              exact ih_lp_go _ _ _ ⟨(sg v5 18 ((v5.1 18) + 1)), (k + 1), (by omega), (by omega), (⟨m1 + 1, MI_18 hI2 ⟨by rw [hI2.mi.1]; exact nI_1 _, by omega⟩⟩), hP, hD, hS, (lv_sub hl [0, 1, 2] rfl), hf⟩
                            · replace hf := hf.trans (if_neg cj)
                              have hk : j < nB := nltI hI2.nB.1 (by have := hI2.nB.2; omega) (by omega) cj
                              have i2 : vp_in (nI j) 8 := vp_in_nI (by have := hI2.nB.2; omega) (by omega)
                              refine lv_aload_n hx hb dX9_go_152 rfl (lv_at hl 2 rfl) ?_
                              refine va_get (D := D) (ci := 10) (v := .ref (a 13)) (C := RX9) (T := TX9) (N := 45) hx hb hts im_X9_go_X9 hown hE.1 hP 0 rfl rfl 13 (by decide) (hts (.fieldLink RX9 38 "RiverBridgesModel" "waits" "[I") (by decide +kernel)) (fun _ h9 => h9) rfl dX9_go_153 ?_
                              refine lv_iload_n hx hb dX9_go_156 rfl (lv_at hl 0 rfl) ?_
                              refine lv_dup2_11 hx hb dX9_go_157 rfl rfl ?_
                              refine lx_iald (v := v5.2.2 13 j) hx hb hE.1 hP 10 0 rfl rfl (by assumption) (by (rw [nI_clamp (by omega)]) <;> rfl) dX9_go_158 ?_
                              refine lv_aload_n hx hb dX9_go_159 rfl (lv_at hl 2 rfl) ?_
                              refine va_get (D := D) (ci := 10) (v := .ref (a 9)) (C := RX9) (T := TX9) (N := 45) hx hb hts im_X9_go_X9 hown hE.1 hP 0 rfl rfl 9 (by decide) (hts (.fieldLink RX9 26 "RiverBridgesModel" "cars" "[I") (by decide +kernel)) (fun _ h9 => h9) rfl dX9_go_160 ?_
                              refine lv_iload_n hx hb dX9_go_163 rfl (lv_at hl 0 rfl) ?_
                              refine lx_iald (v := v5.2.2 9 j) hx hb hE.1 hP 6 0 rfl rfl (by assumption) (by (rw [nI_clamp (by omega)]) <;> rfl) dX9_go_164 ?_
                              refine lx_iadd (v := (v5.2.2 13 j) + (v5.2.2 9 j)) hx hb (rfl) dX9_go_165 ?_
                              refine lx_iast (g := upd (v5.2.2 13) j ((v5.2.2 13 j) + (v5.2.2 9 j))) hx hb hE.1 hP hD hS 10 0 rfl rfl (by assumption) (by (rw [nI_clamp (by omega)]) <;> rfl) dX9_go_166 (fun H locs hP hD hS => ?_)
                              have hP := va_P_eq (WM_a13 cI cZ cB a v5 j ((v5.2.2 13 j) + (v5.2.2 9 j))) hP
                              have hD := va_D_eq (WM_a13 cI cZ cB a v5 j ((v5.2.2 13 j) + (v5.2.2 9 j))) hD
                              refine lv_aload_n hx hb dX9_go_167 rfl (lv_at hl 2 rfl) ?_
                              refine va_get (D := D) (ci := 10) (v := .ref (a 11)) (C := RX9) (T := TX9) (N := 45) hx hb hts im_X9_go_X9 hown hE.1 hP 0 rfl rfl 11 (by decide) (hts (.fieldLink RX9 32 "RiverBridgesModel" "state" "[I") (by decide +kernel)) (fun _ h9 => h9) rfl dX9_go_168 ?_
                              refine lv_iload_n hx hb dX9_go_171 rfl (lv_at hl 0 rfl) ?_
                              refine lx_iald (v := v5.2.2 11 j) hx hb hE.1 hP 8 0 rfl rfl (by assumption) (by (rw [nI_clamp (by omega)]) <;> rfl) dX9_go_172 ?_
                              refine lv_if_ne (tgt := 215) hx hb dX9_go_173 (by decide) (fun c1 => ?_) (fun c1 => ?_)
                              · replace hf := hf.trans (if_neg c1)
                                refine lv_aload_n hx hb dX9_go_215 rfl (lv_at hl 2 rfl) ?_
                                refine va_get (D := D) (ci := 10) (v := .ref (a 15)) (C := RX9) (T := TX9) (N := 45) hx hb hts im_X9_go_X9 hown hE.1 hP 0 rfl rfl 15 (by decide) (hts (.fieldLink RX9 44 "RiverBridgesModel" "waited" "[I") (by decide +kernel)) (fun _ h9 => h9) rfl dX9_go_216 ?_
                                refine lv_iload_n hx hb dX9_go_219 rfl (lv_at hl 0 rfl) ?_
                                refine lv_dup2_11 hx hb dX9_go_220 rfl rfl ?_
                                refine lx_iald (v := v5.2.2 15 j) hx hb hE.1 hP 12 0 rfl rfl (by assumption) (by (rw [nI_clamp (by omega)]) <;> rfl) dX9_go_221 ?_
                                refine lv_aload_n hx hb dX9_go_222 rfl (lv_at hl 2 rfl) ?_
                                refine va_get (D := D) (ci := 10) (v := .ref (a 13)) (C := RX9) (T := TX9) (N := 45) hx hb hts im_X9_go_X9 hown hE.1 hP 0 rfl rfl 13 (by decide) (hts (.fieldLink RX9 38 "RiverBridgesModel" "waits" "[I") (by decide +kernel)) (fun _ h9 => h9) rfl dX9_go_223 ?_
                                refine lv_iload_n hx hb dX9_go_226 rfl (lv_at hl 0 rfl) ?_
                                refine lx_iald (v := ((v5.2.2 13 j) + (v5.2.2 9 j))) hx hb hE.1 hP 10 0 rfl rfl (by assumption) (by (rw [nI_clamp (by omega)]) <;> exact pk_us) dX9_go_227 ?_
                                refine lx_iadd (v := (v5.2.2 15 j) + ((v5.2.2 13 j) + (v5.2.2 9 j))) hx hb (rfl) dX9_go_228 ?_
                                refine lx_iast (g := upd (v5.2.2 15) j ((v5.2.2 15 j) + ((v5.2.2 13 j) + (v5.2.2 9 j)))) hx hb hE.1 hP hD hS 12 0 rfl rfl (by assumption) (by (rw [nI_clamp (by omega)]) <;> rfl) dX9_go_229 (fun H locs hP hD hS => ?_)
                                have hP := va_P_eq (WM_a15 cI cZ cB a (sa v5 13 j ((v5.2.2 13 j) + (v5.2.2 9 j))) j ((v5.2.2 15 j) + ((v5.2.2 13 j) + (v5.2.2 9 j)))) hP
                                have hD := va_D_eq (WM_a15 cI cZ cB a (sa v5 13 j ((v5.2.2 13 j) + (v5.2.2 9 j))) j ((v5.2.2 15 j) + ((v5.2.2 13 j) + (v5.2.2 9 j)))) hD
                                refine lv_iinc (v := nI (j + 1)) (lv' := [(3, .int (nI (j + 1))), (2, .int (nI k)), (0, .ref (a 45)), (1, .int nm)]) hx hb dX9_go_230 hl (k := 0) rfl (by first | exact nI_add _ _ | rfl) (by decide) rfl (fun ls hl => ?_)
                                refine lv_goto (tgt := 144) hx hb dX9_go_233 (by decide) ?_
                                exact ih_lp_go5 _ _ _ ⟨(sa (sa v5 13 j ((v5.2.2 13 j) + (v5.2.2 9 j))) 15 j ((v5.2.2 15 j) + ((v5.2.2 13 j) + (v5.2.2 9 j)))), (j + 1), (by omega), (by omega), (MI_sa (MI_sa (hI2) (by decide)) (by decide)), hP, hD, hS, (lv_sub hl [0, 1, 2, 3] rfl), hf⟩
                              · replace hf := hf.trans (if_pos c1)
                                refine lv_aload_n hx hb dX9_go_176 rfl (lv_at hl 2 rfl) ?_
                                refine va_get (D := D) (ci := 10) (v := .ref (a 13)) (C := RX9) (T := TX9) (N := 45) hx hb hts im_X9_go_X9 hown hE.1 hP 0 rfl rfl 13 (by decide) (hts (.fieldLink RX9 38 "RiverBridgesModel" "waits" "[I") (by decide +kernel)) (fun _ h9 => h9) rfl dX9_go_177 ?_
                                refine lv_iload_n hx hb dX9_go_180 rfl (lv_at hl 0 rfl) ?_
                                refine lv_dup2_11 hx hb dX9_go_181 rfl rfl ?_
                                refine lx_iald (v := ((v5.2.2 13 j) + (v5.2.2 9 j))) hx hb hE.1 hP 10 0 rfl rfl (by assumption) (by (rw [nI_clamp (by omega)]) <;> exact pk_us) dX9_go_182 ?_
                                refine lv_aload_n hx hb dX9_go_183 rfl (lv_at hl 2 rfl) ?_
                                refine va_get (D := D) (ci := 10) (v := .ref (a 13)) (C := RX9) (T := TX9) (N := 45) hx hb hts im_X9_go_X9 hown hE.1 hP 0 rfl rfl 13 (by decide) (hts (.fieldLink RX9 38 "RiverBridgesModel" "waits" "[I") (by decide +kernel)) (fun _ h9 => h9) rfl dX9_go_184 ?_
                                refine lv_iload_n hx hb dX9_go_187 rfl (lv_at hl 0 rfl) ?_
                                refine lx_iald (v := ((v5.2.2 13 j) + (v5.2.2 9 j))) hx hb hE.1 hP 10 0 rfl rfl (by assumption) (by (rw [nI_clamp (by omega)]) <;> exact pk_us) dX9_go_188 ?_
                                refine lv_aload_n hx hb dX9_go_189 rfl (lv_at hl 2 rfl) ?_
                                refine va_get (D := D) (ci := 10) (v := .ref (a 10)) (C := RX9) (T := TX9) (N := 45) hx hb hts im_X9_go_X9 hown hE.1 hP 0 rfl rfl 10 (by decide) (hts (.fieldLink RX9 29 "RiverBridgesModel" "flow" "[I") (by decide +kernel)) (fun _ h9 => h9) rfl dX9_go_190 ?_
                                refine lv_iload_n hx hb dX9_go_193 rfl (lv_at hl 0 rfl) ?_
                                refine lx_iald (v := v5.2.2 10 j) hx hb hE.1 hP 7 0 rfl rfl (by assumption) (by (rw [nI_clamp (by omega)]) <;> rfl) dX9_go_194 ?_
                                refine lv_icmp_ge (tgt := 207) hx hb dX9_go_195 (by decide) (fun c2 => ?_) (fun c2 => ?_)
                                · replace hf := hf.trans (if_pos c2)
                                  refine lv_aload_n hx hb dX9_go_207 rfl (lv_at hl 2 rfl) ?_
                                  refine va_get (D := D) (ci := 10) (v := .ref (a 10)) (C := RX9) (T := TX9) (N := 45) hx hb hts im_X9_go_X9 hown hE.1 hP 0 rfl rfl 10 (by decide) (hts (.fieldLink RX9 29 "RiverBridgesModel" "flow" "[I") (by decide +kernel)) (fun _ h9 => h9) rfl dX9_go_208 ?_
                                  refine lv_iload_n hx hb dX9_go_211 rfl (lv_at hl 0 rfl) ?_
                                  refine lx_iald (v := v5.2.2 10 j) hx hb hE.1 hP 7 0 rfl rfl (by assumption) (by (rw [nI_clamp (by omega)]) <;> rfl) dX9_go_212 ?_
                                  refine lx_isub (v := ((v5.2.2 13 j) + (v5.2.2 9 j)) - (v5.2.2 10 j)) hx hb (rfl) dX9_go_213 ?_
                                  refine lx_iast (g := upd (upd (v5.2.2 13) j ((v5.2.2 13 j) + (v5.2.2 9 j))) j (((v5.2.2 13 j) + (v5.2.2 9 j)) - (v5.2.2 10 j))) hx hb hE.1 hP hD hS 10 0 rfl rfl (by assumption) (by (rw [nI_clamp (by omega)]) <;> rfl) dX9_go_214 (fun H locs hP hD hS => ?_)
                                  have hP := va_P_eq (WM_a13 cI cZ cB a (sa v5 13 j ((v5.2.2 13 j) + (v5.2.2 9 j))) j (((v5.2.2 13 j) + (v5.2.2 9 j)) - (v5.2.2 10 j))) hP
                                  have hD := va_D_eq (WM_a13 cI cZ cB a (sa v5 13 j ((v5.2.2 13 j) + (v5.2.2 9 j))) j (((v5.2.2 13 j) + (v5.2.2 9 j)) - (v5.2.2 10 j))) hD
                                  refine lv_aload_n hx hb dX9_go_215 rfl (lv_at hl 2 rfl) ?_
                                  refine va_get (D := D) (ci := 10) (v := .ref (a 15)) (C := RX9) (T := TX9) (N := 45) hx hb hts im_X9_go_X9 hown hE.1 hP 0 rfl rfl 15 (by decide) (hts (.fieldLink RX9 44 "RiverBridgesModel" "waited" "[I") (by decide +kernel)) (fun _ h9 => h9) rfl dX9_go_216 ?_
                                  refine lv_iload_n hx hb dX9_go_219 rfl (lv_at hl 0 rfl) ?_
                                  refine lv_dup2_11 hx hb dX9_go_220 rfl rfl ?_
                                  refine lx_iald (v := v5.2.2 15 j) hx hb hE.1 hP 12 0 rfl rfl (by assumption) (by (rw [nI_clamp (by omega)]) <;> rfl) dX9_go_221 ?_
                                  refine lv_aload_n hx hb dX9_go_222 rfl (lv_at hl 2 rfl) ?_
                                  refine va_get (D := D) (ci := 10) (v := .ref (a 13)) (C := RX9) (T := TX9) (N := 45) hx hb hts im_X9_go_X9 hown hE.1 hP 0 rfl rfl 13 (by decide) (hts (.fieldLink RX9 38 "RiverBridgesModel" "waits" "[I") (by decide +kernel)) (fun _ h9 => h9) rfl dX9_go_223 ?_
                                  refine lv_iload_n hx hb dX9_go_226 rfl (lv_at hl 0 rfl) ?_
                                  refine lx_iald (v := (((v5.2.2 13 j) + (v5.2.2 9 j)) - (v5.2.2 10 j))) hx hb hE.1 hP 10 0 rfl rfl (by assumption) (by (rw [nI_clamp (by omega)]) <;> exact pk_us) dX9_go_227 ?_
                                  refine lx_iadd (v := (v5.2.2 15 j) + (((v5.2.2 13 j) + (v5.2.2 9 j)) - (v5.2.2 10 j))) hx hb (rfl) dX9_go_228 ?_
                                  refine lx_iast (g := upd (v5.2.2 15) j ((v5.2.2 15 j) + (((v5.2.2 13 j) + (v5.2.2 9 j)) - (v5.2.2 10 j)))) hx hb hE.1 hP hD hS 12 0 rfl rfl (by assumption) (by (rw [nI_clamp (by omega)]) <;> rfl) dX9_go_229 (fun H locs hP hD hS => ?_)
                                  have hP := va_P_eq (WM_a15 cI cZ cB a (sa (sa v5 13 j ((v5.2.2 13 j) + (v5.2.2 9 j))) 13 j (((v5.2.2 13 j) + (v5.2.2 9 j)) - (v5.2.2 10 j))) j ((v5.2.2 15 j) + (((v5.2.2 13 j) + (v5.2.2 9 j)) - (v5.2.2 10 j)))) hP
                                  have hD := va_D_eq (WM_a15 cI cZ cB a (sa (sa v5 13 j ((v5.2.2 13 j) + (v5.2.2 9 j))) 13 j (((v5.2.2 13 j) + (v5.2.2 9 j)) - (v5.2.2 10 j))) j ((v5.2.2 15 j) + (((v5.2.2 13 j) + (v5.2.2 9 j)) - (v5.2.2 10 j)))) hD
                                  refine lv_iinc (v := nI (j + 1)) (lv' := [(3, .int (nI (j + 1))), (2, .int (nI k)), (0, .ref (a 45)), (1, .int nm)]) hx hb dX9_go_230 hl (k := 0) rfl (by first | exact nI_add _ _ | rfl) (by decide) rfl (fun ls hl => ?_)
                                  refine lv_goto (tgt := 144) hx hb dX9_go_233 (by decide) ?_
                                  exact ih_lp_go5 _ _ _ ⟨(sa (sa (sa v5 13 j ((v5.2.2 13 j) + (v5.2.2 9 j))) 13 j (((v5.2.2 13 j) + (v5.2.2 9 j)) - (v5.2.2 10 j))) 15 j ((v5.2.2 15 j) + (((v5.2.2 13 j) + (v5.2.2 9 j)) - (v5.2.2 10 j)))), (j + 1), (by omega), (by omega), (MI_sa (MI_sa (MI_sa (hI2) (by decide)) (by decide)) (by decide)), hP, hD, hS, (lv_sub hl [0, 1, 2, 3] rfl), hf⟩
                                · replace hf := hf.trans (if_neg c2)
                                  refine lv_aload_n hx hb dX9_go_198 rfl (lv_at hl 2 rfl) ?_
                                  refine va_get (D := D) (ci := 10) (v := .ref (a 13)) (C := RX9) (T := TX9) (N := 45) hx hb hts im_X9_go_X9 hown hE.1 hP 0 rfl rfl 13 (by decide) (hts (.fieldLink RX9 38 "RiverBridgesModel" "waits" "[I") (by decide +kernel)) (fun _ h9 => h9) rfl dX9_go_199 ?_
                                  refine lv_iload_n hx hb dX9_go_202 rfl (lv_at hl 0 rfl) ?_
                                  refine lx_iald (v := ((v5.2.2 13 j) + (v5.2.2 9 j))) hx hb hE.1 hP 10 0 rfl rfl (by assumption) (by (rw [nI_clamp (by omega)]) <;> exact pk_us) dX9_go_203 ?_
                                  refine lv_goto (tgt := 213) hx hb dX9_go_204 (by decide) ?_
                                  refine lx_isub (v := ((v5.2.2 13 j) + (v5.2.2 9 j)) - ((v5.2.2 13 j) + (v5.2.2 9 j))) hx hb (rfl) dX9_go_213 ?_
                                  refine lx_iast (g := upd (upd (v5.2.2 13) j ((v5.2.2 13 j) + (v5.2.2 9 j))) j (((v5.2.2 13 j) + (v5.2.2 9 j)) - ((v5.2.2 13 j) + (v5.2.2 9 j)))) hx hb hE.1 hP hD hS 10 0 rfl rfl (by assumption) (by (rw [nI_clamp (by omega)]) <;> rfl) dX9_go_214 (fun H locs hP hD hS => ?_)
                                  have hP := va_P_eq (WM_a13 cI cZ cB a (sa v5 13 j ((v5.2.2 13 j) + (v5.2.2 9 j))) j (((v5.2.2 13 j) + (v5.2.2 9 j)) - ((v5.2.2 13 j) + (v5.2.2 9 j)))) hP
                                  have hD := va_D_eq (WM_a13 cI cZ cB a (sa v5 13 j ((v5.2.2 13 j) + (v5.2.2 9 j))) j (((v5.2.2 13 j) + (v5.2.2 9 j)) - ((v5.2.2 13 j) + (v5.2.2 9 j)))) hD
                                  refine lv_aload_n hx hb dX9_go_215 rfl (lv_at hl 2 rfl) ?_
                                  refine va_get (D := D) (ci := 10) (v := .ref (a 15)) (C := RX9) (T := TX9) (N := 45) hx hb hts im_X9_go_X9 hown hE.1 hP 0 rfl rfl 15 (by decide) (hts (.fieldLink RX9 44 "RiverBridgesModel" "waited" "[I") (by decide +kernel)) (fun _ h9 => h9) rfl dX9_go_216 ?_
                                  refine lv_iload_n hx hb dX9_go_219 rfl (lv_at hl 0 rfl) ?_
                                  refine lv_dup2_11 hx hb dX9_go_220 rfl rfl ?_
                                  refine lx_iald (v := v5.2.2 15 j) hx hb hE.1 hP 12 0 rfl rfl (by assumption) (by (rw [nI_clamp (by omega)]) <;> rfl) dX9_go_221 ?_
                                  refine lv_aload_n hx hb dX9_go_222 rfl (lv_at hl 2 rfl) ?_
                                  refine va_get (D := D) (ci := 10) (v := .ref (a 13)) (C := RX9) (T := TX9) (N := 45) hx hb hts im_X9_go_X9 hown hE.1 hP 0 rfl rfl 13 (by decide) (hts (.fieldLink RX9 38 "RiverBridgesModel" "waits" "[I") (by decide +kernel)) (fun _ h9 => h9) rfl dX9_go_223 ?_
                                  refine lv_iload_n hx hb dX9_go_226 rfl (lv_at hl 0 rfl) ?_
                                  refine lx_iald (v := (((v5.2.2 13 j) + (v5.2.2 9 j)) - ((v5.2.2 13 j) + (v5.2.2 9 j)))) hx hb hE.1 hP 10 0 rfl rfl (by assumption) (by (rw [nI_clamp (by omega)]) <;> exact pk_us) dX9_go_227 ?_
                                  refine lx_iadd (v := (v5.2.2 15 j) + (((v5.2.2 13 j) + (v5.2.2 9 j)) - ((v5.2.2 13 j) + (v5.2.2 9 j)))) hx hb (rfl) dX9_go_228 ?_
                                  refine lx_iast (g := upd (v5.2.2 15) j ((v5.2.2 15 j) + (((v5.2.2 13 j) + (v5.2.2 9 j)) - ((v5.2.2 13 j) + (v5.2.2 9 j))))) hx hb hE.1 hP hD hS 12 0 rfl rfl (by assumption) (by (rw [nI_clamp (by omega)]) <;> rfl) dX9_go_229 (fun H locs hP hD hS => ?_)
                                  have hP := va_P_eq (WM_a15 cI cZ cB a (sa (sa v5 13 j ((v5.2.2 13 j) + (v5.2.2 9 j))) 13 j (((v5.2.2 13 j) + (v5.2.2 9 j)) - ((v5.2.2 13 j) + (v5.2.2 9 j)))) j ((v5.2.2 15 j) + (((v5.2.2 13 j) + (v5.2.2 9 j)) - ((v5.2.2 13 j) + (v5.2.2 9 j))))) hP
                                  have hD := va_D_eq (WM_a15 cI cZ cB a (sa (sa v5 13 j ((v5.2.2 13 j) + (v5.2.2 9 j))) 13 j (((v5.2.2 13 j) + (v5.2.2 9 j)) - ((v5.2.2 13 j) + (v5.2.2 9 j)))) j ((v5.2.2 15 j) + (((v5.2.2 13 j) + (v5.2.2 9 j)) - ((v5.2.2 13 j) + (v5.2.2 9 j))))) hD
                                  refine lv_iinc (v := nI (j + 1)) (lv' := [(3, .int (nI (j + 1))), (2, .int (nI k)), (0, .ref (a 45)), (1, .int nm)]) hx hb dX9_go_230 hl (k := 0) rfl (by first | exact nI_add _ _ | rfl) (by decide) rfl (fun ls hl => ?_)
                                  refine lv_goto (tgt := 144) hx hb dX9_go_233 (by decide) ?_
                                  exact ih_lp_go5 _ _ _ ⟨(sa (sa (sa v5 13 j ((v5.2.2 13 j) + (v5.2.2 9 j))) 13 j (((v5.2.2 13 j) + (v5.2.2 9 j)) - ((v5.2.2 13 j) + (v5.2.2 9 j)))) 15 j ((v5.2.2 15 j) + (((v5.2.2 13 j) + (v5.2.2 9 j)) - ((v5.2.2 13 j) + (v5.2.2 9 j))))), (j + 1), (by omega), (by omega), (MI_sa (MI_sa (MI_sa (hI2) (by decide)) (by decide)) (by decide)), hP, hD, hS, (lv_sub hl [0, 1, 2, 3] rfl), hf⟩
                        · replace hf := hf.trans (if_neg cj)
                          have hk : j < nK := nltI hI2.nK.1 (by have := hI2.nK.2; omega) (by omega) cj
                          have i2 : vp_in (nI j) 4 := vp_in_nI (by have := hI2.nK.2; omega) (by omega)
                          refine lv_aload_n hx hb dX9_go_131 rfl (lv_at hl 2 rfl) ?_
                          refine lv_iload_n hx hb dX9_go_132 rfl (lv_at hl 0 rfl) ?_
                          refine sf_callv (va_runV (As := [.int (nI j)]) (rest := []) ⟨hx, hb, hml, hown, hts⟩ (m_send l D cI cZ cB cO cJ a0 H.size a _ _ _ _ _  v4 (nI j) (hI2) (⟨j, hk, rfl⟩)) (cwV 1 hts gX9_go_X9_send rfl rfl rfl (by decide +kernel) ⟨Nat.le_of_ble_eq_true rfl, Nat.le_of_ble_eq_true rfl⟩) (preV_full hE hZ hA hS hP hD (va_recv hE.1 hP (ci := 10) (q0 := 0) rfl rfl)) rfl rfl hl.1 rfl (lv_room (Nat.le_of_ble_eq_true rfl)) dX9_go_133 ⟨Nat.le_of_ble_eq_true rfl, Nat.le_of_ble_eq_true rfl⟩) hP hD hS hA (fun u9 H locs hw hP hD hS => ?_)
                          have hP : va_P D vwCl (WM cI cZ cB a (f_send v4 (nI j))) H := hP
                          have hD : va_D A (WM cI cZ cB a (f_send v4 (nI j))) := hD
                          refine lv_iinc (v := nI (j + 1)) (lv' := [(3, .int (nI (j + 1))), (2, .int (nI k)), (0, .ref (a 45)), (1, .int nm)]) hx hb dX9_go_136 hl (k := 0) rfl (by first | exact nI_add _ _ | rfl) (by decide) rfl (fun ls hl => ?_)
                          refine lv_goto (tgt := 123) hx hb dX9_go_139 (by decide) ?_
                          exact ih_lp_go4 _ _ _ ⟨(f_send v4 (nI j)), (j + 1), (by omega), (by omega), (MI_send hI2), hP, hD, hS, (lv_sub hl [0, 1, 2, 3] rfl), hf⟩
                    · replace hf := hf.trans (if_neg cj)
                      have hk : j < nB := nltI hI2.nB.1 (by have := hI2.nB.2; omega) (by omega) cj
                      have i2 : vp_in (nI j) 8 := vp_in_nI (by have := hI2.nB.2; omega) (by omega)
                      refine lv_aload_n hx hb dX9_go_110 rfl (lv_at hl 2 rfl) ?_
                      refine lv_iload_n hx hb dX9_go_111 rfl (lv_at hl 0 rfl) ?_
                      refine sf_callv (va_runV (As := [.int (nI j)]) (rest := []) ⟨hx, hb, hml, hown, hts⟩ (m_turn l D cI cZ cB cO cJ a0 H.size a _ _ _ _ _  v3 (nI j) (hI2) (⟨j, hk, rfl⟩)) (cwV 1 hts gX9_go_X9_turn rfl rfl rfl (by decide +kernel) ⟨Nat.le_of_ble_eq_true rfl, Nat.le_of_ble_eq_true rfl⟩) (preV_full hE hZ hA hS hP hD (va_recv hE.1 hP (ci := 10) (q0 := 0) rfl rfl)) rfl rfl hl.1 rfl (lv_room (Nat.le_of_ble_eq_true rfl)) dX9_go_112 ⟨Nat.le_of_ble_eq_true rfl, Nat.le_of_ble_eq_true rfl⟩) hP hD hS hA (fun u9 H locs hw hP hD hS => ?_)
                      have hP : va_P D vwCl (WM cI cZ cB a (f_turn v3 (nI j))) H := hP
                      have hD : va_D A (WM cI cZ cB a (f_turn v3 (nI j))) := hD
                      refine lv_iinc (v := nI (j + 1)) (lv' := [(3, .int (nI (j + 1))), (2, .int (nI k)), (0, .ref (a 45)), (1, .int nm)]) hx hb dX9_go_115 hl (k := 0) rfl (by first | exact nI_add _ _ | rfl) (by decide) rfl (fun ls hl => ?_)
                      refine lv_goto (tgt := 102) hx hb dX9_go_118 (by decide) ?_
                      exact ih_lp_go3 _ _ _ ⟨(f_turn v3 (nI j)), (j + 1), (by omega), (by omega), (MI_turn hI2), hP, hD, hS, (lv_sub hl [0, 1, 2, 3] rfl), hf⟩
                · replace hf := hf.trans (if_neg cj)
                  have hk : j < nS := nltI hI2.nS.1 (by have := hI2.nS.2; omega) (by omega) cj
                  have i2 : vp_in (nI j) 40 := vp_in_nI (by have := hI2.nS.2; omega) (by omega)
                  refine lv_aload_n hx hb dX9_go_70 rfl (lv_at hl 2 rfl) ?_
                  refine va_get (D := D) (ci := 10) (v := .ref (a 36)) (C := RX9) (T := TX9) (N := 45) hx hb hts im_X9_go_X9 hown hE.1 hP 0 rfl rfl 36 (by decide) (hts (.fieldLink RX9 82 "RiverBridgesModel" "waitedAt" "[I") (by decide +kernel)) (fun _ h9 => h9) rfl dX9_go_71 ?_
                  refine lv_iload_n hx hb dX9_go_74 rfl (lv_at hl 0 rfl) ?_
                  refine lv_dup2_11 hx hb dX9_go_75 rfl rfl ?_
                  refine lx_iald (v := v2.2.2 36 j) hx hb hE.1 hP 23 0 rfl rfl (by assumption) (by (rw [nI_clamp (by omega)]) <;> rfl) dX9_go_76 ?_
                  refine lv_aload_n hx hb dX9_go_77 rfl (lv_at hl 2 rfl) ?_
                  refine va_get (D := D) (ci := 10) (v := .ref (a 32)) (C := RX9) (T := TX9) (N := 45) hx hb hts im_X9_go_X9 hown hE.1 hP 0 rfl rfl 32 (by decide) (hts (.fieldLink RX9 70 "RiverBridgesModel" "ship" "[I") (by decide +kernel)) (fun _ h9 => h9) rfl dX9_go_78 ?_
                  refine lv_iload_n hx hb dX9_go_81 rfl (lv_at hl 0 rfl) ?_
                  refine lx_iald (v := v2.2.2 32 j) hx hb hE.1 hP 19 0 rfl rfl (by assumption) (by (rw [nI_clamp (by omega)]) <;> rfl) dX9_go_82 ?_
                  refine lv_iconst (v := 1) hx hb dX9_go_83 (by decide) ?_
                  refine lv_icmp_ne (tgt := 91) hx hb dX9_go_84 (by decide) (fun c3 => ?_) (fun c3 => ?_)
                  · replace hf := hf.trans (if_neg c3)
                    refine lv_iconst (v := 0) hx hb dX9_go_91 (by decide) ?_
                    refine lx_iadd (v := (v2.2.2 36 j) + 0) hx hb (rfl) dX9_go_92 ?_
                    refine lx_iast (g := upd (v2.2.2 36) j ((v2.2.2 36 j) + 0)) hx hb hE.1 hP hD hS 23 0 rfl rfl (by assumption) (by (rw [nI_clamp (by omega)]) <;> rfl) dX9_go_93 (fun H locs hP hD hS => ?_)
                    have hP := va_P_eq (WM_a36 cI cZ cB a v2 j ((v2.2.2 36 j) + 0)) hP
                    have hD := va_D_eq (WM_a36 cI cZ cB a v2 j ((v2.2.2 36 j) + 0)) hD
                    refine lv_iinc (v := nI (j + 1)) (lv' := [(3, .int (nI (j + 1))), (2, .int (nI k)), (0, .ref (a 45)), (1, .int nm)]) hx hb dX9_go_94 hl (k := 0) rfl (by first | exact nI_add _ _ | rfl) (by decide) rfl (fun ls hl => ?_)
                    refine lv_goto (tgt := 62) hx hb dX9_go_97 (by decide) ?_
                    exact ih_lp_go2 _ _ _ ⟨(sa v2 36 j ((v2.2.2 36 j) + 0)), (j + 1), (by omega), (by omega), (MI_sa (hI2) (by decide)), hP, hD, hS, (lv_sub hl [0, 1, 2, 3] rfl), hf⟩
                  · replace hf := hf.trans (if_pos c3)
                    refine lv_iconst (v := 1) hx hb dX9_go_87 (by decide) ?_
                    refine lv_goto (tgt := 92) hx hb dX9_go_88 (by decide) ?_
                    refine lx_iadd (v := (v2.2.2 36 j) + 1) hx hb (rfl) dX9_go_92 ?_
                    refine lx_iast (g := upd (v2.2.2 36) j ((v2.2.2 36 j) + 1)) hx hb hE.1 hP hD hS 23 0 rfl rfl (by assumption) (by (rw [nI_clamp (by omega)]) <;> rfl) dX9_go_93 (fun H locs hP hD hS => ?_)
                    have hP := va_P_eq (WM_a36 cI cZ cB a v2 j ((v2.2.2 36 j) + 1)) hP
                    have hD := va_D_eq (WM_a36 cI cZ cB a v2 j ((v2.2.2 36 j) + 1)) hD
                    refine lv_iinc (v := nI (j + 1)) (lv' := [(3, .int (nI (j + 1))), (2, .int (nI k)), (0, .ref (a 45)), (1, .int nm)]) hx hb dX9_go_94 hl (k := 0) rfl (by first | exact nI_add _ _ | rfl) (by decide) rfl (fun ls hl => ?_)
                    refine lv_goto (tgt := 62) hx hb dX9_go_97 (by decide) ?_
                    exact ih_lp_go2 _ _ _ ⟨(sa v2 36 j ((v2.2.2 36 j) + 1)), (j + 1), (by omega), (by omega), (MI_sa (hI2) (by decide)), hP, hD, hS, (lv_sub hl [0, 1, 2, 3] rfl), hf⟩
            · replace hf := hf.trans (if_neg cj)
              have hk : j < nB := nltI hI2.nB.1 (by have := hI2.nB.2; omega) (by omega) cj
              have i2 : vp_in (nI j) 8 := vp_in_nI (by have := hI2.nB.2; omega) (by omega)
              refine lv_aload_n hx hb dX9_go_49 rfl (lv_at hl 2 rfl) ?_
              refine lv_iload_n hx hb dX9_go_50 rfl (lv_at hl 0 rfl) ?_
              refine sf_callv (va_runV (As := [.int (nI j)]) (rest := []) ⟨hx, hb, hml, hown, hts⟩ (m_pass l D cI cZ cB cO cJ a0 H.size a _ _ _ _ _  v1 (nI j) (hI2) (⟨j, hk, rfl⟩)) (cwV 1 hts gX9_go_X9_pass rfl rfl rfl (by decide +kernel) ⟨Nat.le_of_ble_eq_true rfl, Nat.le_of_ble_eq_true rfl⟩) (preV_full hE hZ hA hS hP hD (va_recv hE.1 hP (ci := 10) (q0 := 0) rfl rfl)) rfl rfl hl.1 rfl (lv_room (Nat.le_of_ble_eq_true rfl)) dX9_go_51 ⟨Nat.le_of_ble_eq_true rfl, Nat.le_of_ble_eq_true rfl⟩) hP hD hS hA (fun u9 H locs hw hP hD hS => ?_)
              have hP : va_P D vwCl (WM cI cZ cB a (f_pass v1 (nI j))) H := hP
              have hD : va_D A (WM cI cZ cB a (f_pass v1 (nI j))) := hD
              refine lv_iinc (v := nI (j + 1)) (lv' := [(3, .int (nI (j + 1))), (2, .int (nI k)), (0, .ref (a 45)), (1, .int nm)]) hx hb dX9_go_54 hl (k := 0) rfl (by first | exact nI_add _ _ | rfl) (by decide) rfl (fun ls hl => ?_)
              refine lv_goto (tgt := 41) hx hb dX9_go_57 (by decide) ?_
              exact ih_lp_go1 _ _ _ ⟨(f_pass v1 (nI j)), (j + 1), (by omega), (by omega), (MI_pass hI2), hP, hD, hS, (lv_sub hl [0, 1, 2, 3] rfl), hf⟩
  · replace hf := hf.trans (if_pos cin)
    refine lv_iconst (v := -1) hx hb dX9_go_16 (by decide) ?_
    exact ss_iret () hx hb hr hlocks (by rw [hf]; exact hP) (by rw [hf]; exact hD) hS (by rw [hf]) (Nat.le_of_ble_eq_true rfl) (Nat.le_of_ble_eq_true rfl) dX9_go_17
