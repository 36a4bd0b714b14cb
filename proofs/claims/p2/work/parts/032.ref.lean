theorem MI_32 {nB nS nK mi ln : Nat} {u : RS} (h : MI nB nS nK mi ln u) {i : Nat} {v : Int32} (hv : v = 1 ∨ v = 2 → ixN (u.2.2 33 i) nB) : MI nB nS nK mi ln (sa u 32 i v) := by
  refine ⟨h.nB, h.nS, h.nK, h.mi, h.ln, h.sb, ?_, h.kA, h.kT, h.way, h.spans⟩
  intro j hj hq
  by_cases e : j = i
  · subst e
    exact hv (by have hq : upd (u.2.2 32) j v j = 1 ∨ upd (u.2.2 32) j v j = 2 := hq
                 rw [pk_us] at hq; exact hq)
  · exact h.at j hj (by have hq : upd (u.2.2 32) i v j = 1 ∨ upd (u.2.2 32) i v j = 2 := hq
                        rw [pk_un e] at hq; exact hq)
theorem MI_33 {nB nS nK mi ln : Nat} {u : RS} (h : MI nB nS nK mi ln u) {i : Nat} {v : Int32} (hv : ixN v nB) : MI nB nS nK mi ln (sa u 33 i v) := by
  refine ⟨h.nB, h.nS, h.nK, h.mi, h.ln, h.sb, ?_, h.kA, h.kT, h.way, h.spans⟩
  intro j hj hq
  show ixN (upd (u.2.2 33) i v j) nB
  by_cases e : j = i
  · subst e; rw [pk_us]; exact hv
  · rw [pk_un e]; exact h.at j hj hq
theorem MI_41 {nB nS nK mi ln : Nat} {u : RS} (h : MI nB nS nK mi ln u) {i : Nat} {v : Int32} (hv : v = -1 ∨ ixN v nB) : MI nB nS nK mi ln (sa u 41 i v) := by
  refine ⟨h.nB, h.nS, h.nK, h.mi, h.ln, h.sb, h.at, ?_, h.kT, h.way, h.spans⟩
  intro j hj
  show upd (u.2.2 41) i v j = -1 ∨ ixN (upd (u.2.2 41) i v j) nB
  by_cases e : j = i
  · subst e; rw [pk_us]; exact hv
  · rw [pk_un e]; exact h.kA j hj
theorem MI_42 {nB nS nK mi ln : Nat} {u : RS} (h : MI nB nS nK mi ln u) {i : Nat} {v : Int32} (hv : v = -1 ∨ ixN v nB) : MI nB nS nK mi ln (sa u 42 i v) := by
  refine ⟨h.nB, h.nS, h.nK, h.mi, h.ln, h.sb, h.at, h.kA, ?_, h.way, h.spans⟩
  intro j hj
  show upd (u.2.2 42) i v j = -1 ∨ ixN (upd (u.2.2 42) i v j) nB
  by_cases e : j = i
  · subst e; rw [pk_us]; exact hv
  · rw [pk_un e]; exact h.kT j hj
theorem MI_22 {nB nS nK mi ln : Nat} {u : RS} (h : MI nB nS nK mi ln u) {i : Nat} {v : Int32} (hv : ixN v 13) : MI nB nS nK mi ln (sa u 22 i v) := by
  refine ⟨h.nB, h.nS, h.nK, h.mi, h.ln, h.sb, h.at, h.kA, h.kT, h.way, ?_⟩
  intro j hj
  show ixN (upd (u.2.2 22) i v j) 13
  by_cases e : j = i
  · subst e; rw [pk_us]; exact hv
  · rw [pk_un e]; exact h.spans j hj
theorem MI_18 {nB nS nK mi mi2 ln : Nat} {u : RS} {v : Int32} (h : MI nB nS nK mi ln u) (hv : v = nI mi2 ∧ mi2 ≤ 1440) : MI nB nS nK mi2 ln (sg u 18 v) := ⟨h.nB, h.nS, h.nK, hv, h.ln, h.sb, h.at, h.kA, h.kT, h.way, h.spans⟩
theorem MI_2 {nB nS nK mi ln ln2 : Nat} {u : RS} {v : Int32} (h : MI nB nS nK mi ln u) (hv : v = nI ln2 ∧ ln2 ≤ 440) : MI nB nS nK mi ln2 (sg u 2 v) := ⟨h.nB, h.nS, h.nK, h.mi, hv, h.sb, h.at, h.kA, h.kT, h.way, h.spans⟩
theorem first_ix {nB nS nK mi ln : Nat} {u : RS} (h : MI nB nS nK mi ln u) (h0 : 0 < nB) (x : Int32) : ixN (f_first u x) nB := by
  rw [f_first_s]
  by_cases hx : x = 0
  · rw [if_pos hx, h.nB.1]
    cases nB with
    | zero => omega
    | succ n => exact ⟨n, by omega, nI_pred n⟩
  · rw [if_neg hx]
    exact ⟨0, h0, rfl⟩
theorem ix_add1 {x : Int32} {n : Nat} (h : ixN x n) (hn : n ≤ 8) (h0 : ¬ x = nI n - 1) : ixN (x + 1) n := by
  obtain ⟨j, hj, rfl⟩ := h
  refine ⟨j + 1, ?_, nI_1 j⟩
  by_cases e : j + 1 = n
  · subst e
    rw [nI_pred] at h0
    exact absurd rfl h0
  · omega
theorem ix_sub1 {x : Int32} {n : Nat} (h : ixN x n) (h0 : ¬ x = 0) : ixN (x - 1) n := by
  obtain ⟨j, hj, rfl⟩ := h
  cases j with
  | zero => exact absurd rfl h0
  | succ j => exact ⟨j, by omega, nI_pred j⟩
theorem f_first_0 (u : RS) : f_first u 0 = u.1 17 - 1 := by rw [f_first_s]; exact if_pos rfl
theorem MI_goThrough {nB nS nK mi ln : Nat} {u : RS} {sh : Int32} (h : MI nB nS nK mi ln u) (hw : ixN (u.2.2 33 sh.toNatClampNeg) nB) : MI nB nS nK mi ln (f_goThrough u sh) := by
  rw [f_goThrough_s]
  have h38 : ∀ (i : Nat) (v : Int32), MI nB nS nK mi ln (sa u 38 i v) := fun i v => MI_sa h (by decide)
  by_cases c1 : u.2.2 39 sh.toNatClampNeg = 0
  · rw [if_pos c1]
    split
    · exact MI_sa (MI_32 (h38 _ _) (fun e => by rcases e with e | e <;> exact absurd e (by decide))) (by decide)
    · rename_i c2
      refine MI_sa (MI_33 (MI_32 (h38 _ _) (fun _ => hw)) (ix_sub1 hw (fun e => c2 (e.trans (f_first_1 _).symm)))) (by decide)
  · rw [if_neg c1]
    split
    · exact MI_sa (MI_32 (h38 _ _) (fun e => by rcases e with e | e <;> exact absurd e (by decide))) (by decide)
    · rename_i c2
      refine MI_sa (MI_33 (MI_32 (h38 _ _) (fun _ => hw)) (ix_add1 hw h.nB.2 (fun e => c2 (e.trans ?_)))) (by decide)
      rw [f_first_0]
      show _ = u.1 17 - 1
      rw [h.nB.1]
theorem MI_turn {nB nS nK mi ln : Nat} {u : RS} {b : Int32} (h : MI nB nS nK mi ln u) : MI nB nS nK mi ln (f_turn u b) := by
  rw [f_turn_s]
  repeat' split
  all_goals first | exact h | exact MI_sa (MI_sa h (by decide)) (by decide) | exact MI_sa (MI_sa (MI_sa h (by decide)) (by decide)) (by decide)
theorem lp_send_ix {nB nS nK mi ln : Nat} {u : RS} {kp : Int32} (h : MI nB nS nK mi ln u) : ∀ (n : Nat) (x : Int32) (k : Nat), k + n = 9 → (x = -1 ∨ ixN x nB) → lp_send u kp n x k = -1 ∨ ixN (lp_send u kp n x k) nB := by
  intro n
  induction n with
  | zero => intro x k _ hx; exact hx
  | succ n ih =>
    intro x k hk hx
    rw [lp_send_s]
    split
    · exact hx
    · rename_i c1
      have hk2 : k < nB := nltI h.nB.1 (by have := h.nB.2; omega) (by omega) c1
      repeat' split
      all_goals first | exact ih _ _ (by omega) hx | exact ih _ _ (by omega) (Or.inr ⟨k, hk2, rfl⟩)
theorem MI_send {nB nS nK mi ln : Nat} {u : RS} {kp : Int32} (h : MI nB nS nK mi ln u) : MI nB nS nK mi ln (f_send u kp) := by
  rw [f_send_s]
  repeat' split
  all_goals first | exact h | exact MI_sa (MI_42 (MI_41 h (Or.inl rfl)) (lp_send_ix h 9 _ 0 rfl (Or.inl rfl))) (by decide)
def lp_pass2 (b : Int32) (w1 : RS) : Nat → Int32 → Nat → Int32
  | 0, x1, k => x1
  | n + 1, x1, k => (if w1.1 40 ≤ nI k then x1 else (if w1.2.2 32 k = 1 then (if w1.2.2 33 k = b then (if x1 < 0 then (lp_pass2 b w1 n (nI k) (k + 1)) else (if w1.2.2 35 x1.toNatClampNeg ≤ w1.2.2 35 k then (lp_pass2 b w1 n x1 (k + 1)) else (lp_pass2 b w1 n (nI k) (k + 1)))) else (lp_pass2 b w1 n x1 (k + 1))) else (lp_pass2 b w1 n x1 (k + 1))))
theorem lp_pass2_s (b : Int32) (w1 : RS) (n : Nat) (x1 : Int32) (k : Nat) : lp_pass2 b w1 (n + 1) x1 k = (if w1.1 40 ≤ nI k then x1 else (if w1.2.2 32 k = 1 then (if w1.2.2 33 k = b then (if x1 < 0 then (lp_pass2 b w1 n (nI k) (k + 1)) else (if w1.2.2 35 x1.toNatClampNeg ≤ w1.2.2 35 k then (lp_pass2 b w1 n x1 (k + 1)) else (lp_pass2 b w1 n (nI k) (k + 1)))) else (lp_pass2 b w1 n x1 (k + 1))) else (lp_pass2 b w1 n x1 (k + 1)))) := rfl
def lp_pass1 (b : Int32) : Nat → RS → Nat → RS
  | 0, u1, k => u1
  | n + 1, u1, k => (if u1.1 40 ≤ nI k then u1 else (if u1.2.2 32 k = 1 then (if u1.2.2 33 k = b then (if f_isUnder u1 (u1.2.2 31 k) b (u1.1 18) = 0 then (lp_pass1 b n u1 (k + 1)) else (lp_pass1 b n (f_goThrough u1 (nI k)) (k + 1))) else (lp_pass1 b n u1 (k + 1))) else (lp_pass1 b n u1 (k + 1))))
theorem lp_pass1_s (b : Int32) (n : Nat) (u1 : RS) (k : Nat) : lp_pass1 b (n + 1) u1 k = (if u1.1 40 ≤ nI k then u1 else (if u1.2.2 32 k = 1 then (if u1.2.2 33 k = b then (if f_isUnder u1 (u1.2.2 31 k) b (u1.1 18) = 0 then (lp_pass1 b n u1 (k + 1)) else (lp_pass1 b n (f_goThrough u1 (nI k)) (k + 1))) else (lp_pass1 b n u1 (k + 1))) else (lp_pass1 b n u1 (k + 1)))) := rfl
def f_pass (u : RS) (b : Int32) : RS := (if (lp_pass1 b 41 u 0).2.2 11 b.toNatClampNeg = 2 then (if (lp_pass2 b (lp_pass1 b 41 u 0) 41 (-1) 0) < 0 then (lp_pass1 b 41 u 0) else (f_goThrough (lp_pass1 b 41 u 0) (lp_pass2 b (lp_pass1 b 41 u 0) 41 (-1) 0))) else (lp_pass1 b 41 u 0))
theorem f_pass_s (u : RS) (b : Int32) : f_pass u b = (if (lp_pass1 b 41 u 0).2.2 11 b.toNatClampNeg = 2 then (if (lp_pass2 b (lp_pass1 b 41 u 0) 41 (-1) 0) < 0 then (lp_pass1 b 41 u 0) else (f_goThrough (lp_pass1 b 41 u 0) (lp_pass2 b (lp_pass1 b 41 u 0) 41 (-1) 0))) else (lp_pass1 b 41 u 0)) := rfl
theorem im_X9_pass_X9 : ∀ w ∈ wsX90, w ∈ wsX9_pass := fun _ h => List.mem_cons_of_mem _ (List.mem_append_right _ h)
set_option maxHeartbeats 400000 in
set_option maxRecDepth 100000 in
theorem m_pass (l : Launch) (D : va_G) (cI cZ cB cO cJ : ClassId) (a0 sz : Nat) (a : Nat → Nat) (nB nS nK mi ln : Nat) (u : RS) (b : Int32) (hI : MI nB nS nK mi ln u) (hbB : ixN b nB) : Met l yX9_pass wsX9_pass ({ frames := 2, cells := 0, slots := 0, locals := 45 }) (Pcs D cI cZ cB cO cJ a0 [.ref (a 45), .int b] (WM cI cZ cB a u) sz) (va_Qv (fun (_ : Unit) => True) (fun (_ : Unit) t => va_P D vwCl (WM cI cZ cB a (f_pass u b)) t.heap ∧ va_D (va_A (WM cI cZ cB a u) sz) (WM cI cZ cB a (f_pass u b))) (va_A (WM cI cZ cB a u) sz)) 0 0 (va_A (WM cI cZ cB a u) sz) := by
  refine Met.ofW (cc := cX9_pass) (maxL := 4) (ret := none) (by decide) rfl ?_
  intro p e s m args below meth c s₁ B hml hv
  obtain ⟨rfl, hsz, hP, hE, hD0, hZ⟩ := hv
  have hx := B.exec
  have hb := B.bytes
  have hr := B.returns
  have hts := atoms_spec (ws := wsX9_pass) B.pre
  have hown : s.vm.findClass RX9 = some m.cls := findClass_of_methodNamed B.named
  have hlocks := B.notSynchronized
  subst hsz
  have hD := hD0.self (sz := s.heap.size)
  generalize hAe : va_A (WM cI cZ cB a u) s.heap.size = A at hD hZ ⊢
  have hA : ∀ q : Nat, s.heap.size ≤ q → A q := fun q h => by rw [← hAe]; exact Or.inr h
  clear hAe
  have hS : va_S A s.heap s.heap [] := va_S.rf
  have hP : va_P D vwCl (WM cI cZ cB a u) s.heap := hP
  have hl := lv_entry ([.ref (a 45), .int b]) (n := 4) (Nat.le_of_ble_eq_true rfl)
  rw [lg_entry_eq]
  generalize (lg_sl ([.ref (a 45), .int b]) ++ List.replicate (4 - (lg_sl ([.ref (a 45), .int b])).length) Slot.unset).toArray = ls at hl ⊢
  have hl : lv_has ls 4 [(0, .ref (a 45)), (1, .int b)] := hl
  have hf := f_pass_s u b
  have i1 := hbB.inn (N := 8) hI.nB.2 (by omega)
  refine lv_iconst (v := 0) hx hb dX9_pass_0 (by decide) ?_
  refine lv_istore_n (lv' := [(2, .int 0), (0, .ref (a 45)), (1, .int b)]) hx hb dX9_pass_1 rfl hl (by decide) rfl (fun ls hl => ?_)
  have hf_lp_pass1 := hf
  refine ss_ind (J := fun n H locs ls => ∃ (u1 : RS) (k : Nat), (k + n = 41) ∧ (k ≤ nS) ∧ (MI nB nS nK mi ln u1) ∧ va_P D vwCl (WM cI cZ cB a u1) H ∧ va_D A (WM cI cZ cB a u1) ∧ va_S A s.heap H locs ∧ lv_has ls 4 [(2, .int (nI k)), (0, .ref (a 45)), (1, .int b)] ∧ lp_pass1 b 41 u 0 = lp_pass1 b n u1 k) ?_ ?_ (41) _ _ _ ⟨u, 0, (rfl), (Nat.zero_le _), (hI), hP, hD, hS, (lv_sub hl [0, 1, 2] rfl), rfl⟩
  all_goals clear hf
  · intro H locs ls hJ
    obtain ⟨u1, k, hkn, hkw, hI1, hP, hD, hS, hl, hf⟩ := hJ
    have := hI.nS.2; omega
  · intro n_lp_pass1 ih_lp_pass1 H locs ls hJ
    obtain ⟨u1, k, hkn, hkw, hI1, hP, hD, hS, hl, hf⟩ := hJ
    replace hf := hf.trans (lp_pass1_s _ n_lp_pass1 _ _)
    refine lv_iload_n hx hb dX9_pass_2 rfl (lv_at hl 0 rfl) ?_
    refine lv_aload_n hx hb dX9_pass_3 rfl (lv_at hl 1 rfl) ?_
    refine va_get (D := D) (ci := 10) (v := .int (u1.1 40)) (C := RX9) (T := TX9) (N := 45) hx hb hts im_X9_pass_X9 hown hE.1 hP 0 rfl rfl 40 (by decide) (hts (.fieldLink RX9 208 "RiverBridgesModel" "ships" "I") (by decide +kernel)) (fun _ h9 => h9) rfl dX9_pass_4 ?_
    refine lv_icmp_ge (tgt := 59) hx hb dX9_pass_7 (by decide) (fun ck => ?_) (fun ck => ?_)
    · replace hf := hf.trans (if_pos ck)
      have e90 : (lp_pass1 b 41 u 0) = u1 := by rw [hf]
      clear hf
      have hf := hf_lp_pass1
      try rw [e90] at hf
      clear ih_lp_pass1 e90
      have hl : lv_has ls 4 [(0, .ref (a 45)), (1, .int b)] := lv_sub hl [1, 2] rfl
      refine lv_aload_n hx hb dX9_pass_59 rfl (lv_at hl 0 rfl) ?_
      refine va_get (D := D) (ci := 10) (v := .ref (a 11)) (C := RX9) (T := TX9) (N := 45) hx hb hts im_X9_pass_X9 hown hE.1 hP 0 rfl rfl 11 (by decide) (hts (.fieldLink RX9 32 "RiverBridgesModel" "state" "[I") (by decide +kernel)) (fun _ h9 => h9) rfl dX9_pass_60 ?_
      refine lv_iload_n hx hb dX9_pass_63 rfl (lv_at hl 1 rfl) ?_
      refine lx_iald (v := u1.2.2 11 b.toNatClampNeg) hx hb hE.1 hP 8 0 rfl rfl (by assumption) (rfl) dX9_pass_64 ?_
      refine lv_iconst (v := 2) hx hb dX9_pass_65 (by decide) ?_
      refine lv_icmp_eq (tgt := 70) hx hb dX9_pass_66 (by decide) (fun c1 => ?_) (fun c1 => ?_)
      · replace hf := hf.trans (if_pos c1)
        refine lv_iconst (v := -1) hx hb dX9_pass_70 (by decide) ?_
        refine lv_istore_n (lv' := [(2, .int (-1)), (0, .ref (a 45)), (1, .int b)]) hx hb dX9_pass_71 rfl hl (by decide) rfl (fun ls hl => ?_)
        refine lv_iconst (v := 0) hx hb dX9_pass_72 (by decide) ?_
        refine lv_istore_n (lv' := [(3, .int 0), (2, .int (-1)), (0, .ref (a 45)), (1, .int b)]) hx hb dX9_pass_73 rfl hl (by decide) rfl (fun ls hl => ?_)
        have hf_lp_pass2 := hf
        refine ss_ind (J := fun n H locs ls => ∃ (x1 : Int32) (k : Nat), (k + n = 41) ∧ (k ≤ nS) ∧ (x1 = -1 ∨ ∃ j : Nat, j < nS ∧ x1 = nI j ∧ u1.2.2 32 j = 1) ∧ va_P D vwCl (WM cI cZ cB a u1) H ∧ va_D A (WM cI cZ cB a u1) ∧ va_S A s.heap H locs ∧ lv_has ls 4 [(2, .int x1), (3, .int (nI k)), (0, .ref (a 45)), (1, .int b)] ∧ lp_pass2 b u1 41 (-1) 0 = lp_pass2 b u1 n x1 k) ?_ ?_ (41) _ _ _ ⟨(-1), 0, (rfl), (Nat.zero_le _), (Or.inl rfl), hP, hD, hS, (lv_sub hl [1, 0, 2, 3] rfl), rfl⟩
        all_goals clear hf
        · intro H locs ls hJ
          obtain ⟨x1, k, hkn, hkw, hx1, hP, hD, hS, hl, hf⟩ := hJ
          have := hI.nS.2; omega
        · intro n_lp_pass2 ih_lp_pass2 H locs ls hJ
          obtain ⟨x1, k, hkn, hkw, hx1, hP, hD, hS, hl, hf⟩ := hJ
          replace hf := hf.trans (lp_pass2_s _ _ n_lp_pass2 _ _)
          refine lv_iload_n hx hb dX9_pass_74 rfl (lv_at hl 1 rfl) ?_
          refine lv_aload_n hx hb dX9_pass_75 rfl (lv_at hl 2 rfl) ?_
          refine va_get (D := D) (ci := 10) (v := .int (u1.1 40)) (C := RX9) (T := TX9) (N := 45) hx hb hts im_X9_pass_X9 hown hE.1 hP 0 rfl rfl 40 (by decide) (hts (.fieldLink RX9 208 "RiverBridgesModel" "ships" "I") (by decide +kernel)) (fun _ h9 => h9) rfl dX9_pass_76 ?_
          refine lv_icmp_ge (tgt := 129) hx hb dX9_pass_79 (by decide) (fun ck => ?_) (fun ck => ?_)
          · replace hf := hf.trans (if_pos ck)
            have e90 : (lp_pass2 b u1 41 (-1) 0) = x1 := by rw [hf]
            clear hf
            have hf := hf_lp_pass2
            try rw [e90] at hf
            clear ih_lp_pass2 e90
            have hl : lv_has ls 4 [(2, .int x1), (0, .ref (a 45)), (1, .int b)] := lv_sub hl [0, 2, 3] rfl
            refine lv_iload_n hx hb dX9_pass_129 rfl (lv_at hl 0 rfl) ?_
            refine lv_if_lt (tgt := 138) hx hb dX9_pass_130 (by decide) (fun cb => ?_) (fun cb => ?_)
            · replace hf := hf.trans (if_pos cb)
              exact ss_vret () hx hb hr hlocks (by rw [hf]; exact hP) (by rw [hf]; exact hD) hS trivial (Nat.le_of_ble_eq_true rfl) (Nat.le_of_ble_eq_true rfl) dX9_pass_138
            · replace hf := hf.trans (if_neg cb)
              obtain ⟨j, hj, ej, aj⟩ := hx1.resolve_left (fun e9 => cb (by rw [e9]; decide))
              refine lv_aload_n hx hb dX9_pass_133 rfl (lv_at hl 1 rfl) ?_
              refine lv_iload_n hx hb dX9_pass_134 rfl (lv_at hl 0 rfl) ?_
              refine sf_callv (va_runV (As := [.int x1]) (rest := []) ⟨hx, hb, hml, hown, hts⟩ (m_goThrough l D cI cZ cB cO cJ a0 H.size a _ _ _ _ _  u1 x1 (hI1) (⟨j, hj, ej⟩) (by rw [ej, nI_clamp (by have := hI1.nS.2; omega)]; exact hI1.at j hj (Or.inl aj))) (cwV 1 hts gX9_pass_X9_goThrough rfl rfl rfl (by decide +kernel) ⟨Nat.le_of_ble_eq_true rfl, Nat.le_of_ble_eq_true rfl⟩) (preV_full hE hZ hA hS hP hD (va_recv hE.1 hP (ci := 10) (q0 := 0) rfl rfl)) rfl rfl hl.1 rfl (lv_room (Nat.le_of_ble_eq_true rfl)) dX9_pass_135 ⟨Nat.le_of_ble_eq_true rfl, Nat.le_of_ble_eq_true rfl⟩) hP hD hS hA (fun u9 H locs hw hP hD hS => ?_)
              have hP : va_P D vwCl (WM cI cZ cB a (f_goThrough u1 x1)) H := hP
              have hD : va_D A (WM cI cZ cB a (f_goThrough u1 x1)) := hD
              exact ss_vret () hx hb hr hlocks (by rw [hf]; exact hP) (by rw [hf]; exact hD) hS trivial (Nat.le_of_ble_eq_true rfl) (Nat.le_of_ble_eq_true rfl) dX9_pass_138
          · replace hf := hf.trans (if_neg ck)
            have hk : k < nS := nltI hI1.nS.1 (by have := hI1.nS.2; omega) (by omega) ck
            have i2 : vp_in (nI k) 40 := vp_in_nI (by have := hI1.nS.2; omega) (by omega)
            refine lv_aload_n hx hb dX9_pass_82 rfl (lv_at hl 2 rfl) ?_
            refine va_get (D := D) (ci := 10) (v := .ref (a 32)) (C := RX9) (T := TX9) (N := 45) hx hb hts im_X9_pass_X9 hown hE.1 hP 0 rfl rfl 32 (by decide) (hts (.fieldLink RX9 70 "RiverBridgesModel" "ship" "[I") (by decide +kernel)) (fun _ h9 => h9) rfl dX9_pass_83 ?_
            refine lv_iload_n hx hb dX9_pass_86 rfl (lv_at hl 1 rfl) ?_
            refine lx_iald (v := u1.2.2 32 k) hx hb hE.1 hP 19 0 rfl rfl (by assumption) (by (rw [nI_clamp (by omega)]) <;> rfl) dX9_pass_87 ?_
            refine lv_iconst (v := 1) hx hb dX9_pass_88 (by decide) ?_
            refine lv_icmp_ne (tgt := 123) hx hb dX9_pass_89 (by decide) (fun ca => ?_) (fun ca => ?_)
            · replace hf := hf.trans (if_neg ca)
              refine lv_iinc (v := nI (k + 1)) (lv' := [(3, .int (nI (k + 1))), (2, .int x1), (0, .ref (a 45)), (1, .int b)]) hx hb dX9_pass_123 hl (k := 1) rfl (by first | exact nI_add _ _ | rfl) (by decide) rfl (fun ls hl => ?_)
              refine lv_goto (tgt := 74) hx hb dX9_pass_126 (by decide) ?_
              exact ih_lp_pass2 _ _ _ ⟨x1, (k + 1), (by omega), (by omega), (by first | exact hx1 | exact Or.inr ⟨k, hk, rfl, ca⟩), hP, hD, hS, (lv_sub hl [1, 0, 2, 3] rfl), hf⟩
            · replace hf := hf.trans (if_pos ca)
              refine lv_aload_n hx hb dX9_pass_92 rfl (lv_at hl 2 rfl) ?_
              refine va_get (D := D) (ci := 10) (v := .ref (a 33)) (C := RX9) (T := TX9) (N := 45) hx hb hts im_X9_pass_X9 hown hE.1 hP 0 rfl rfl 33 (by decide) (hts (.fieldLink RX9 73 "RiverBridgesModel" "where" "[I") (by decide +kernel)) (fun _ h9 => h9) rfl dX9_pass_93 ?_
              refine lv_iload_n hx hb dX9_pass_96 rfl (lv_at hl 1 rfl) ?_
              refine lx_iald (v := u1.2.2 33 k) hx hb hE.1 hP 20 0 rfl rfl (by assumption) (by (rw [nI_clamp (by omega)]) <;> rfl) dX9_pass_97 ?_
              refine lv_iload_n hx hb dX9_pass_98 rfl (lv_at hl 3 rfl) ?_
              refine lv_icmp_ne (tgt := 123) hx hb dX9_pass_99 (by decide) (fun c2 => ?_) (fun c2 => ?_)
              · replace hf := hf.trans (if_neg c2)
                refine lv_iinc (v := nI (k + 1)) (lv' := [(3, .int (nI (k + 1))), (2, .int x1), (0, .ref (a 45)), (1, .int b)]) hx hb dX9_pass_123 hl (k := 1) rfl (by first | exact nI_add _ _ | rfl) (by decide) rfl (fun ls hl => ?_)
                refine lv_goto (tgt := 74) hx hb dX9_pass_126 (by decide) ?_
                exact ih_lp_pass2 _ _ _ ⟨x1, (k + 1), (by omega), (by omega), (by first | exact hx1 | exact Or.inr ⟨k, hk, rfl, ca⟩), hP, hD, hS, (lv_sub hl [1, 0, 2, 3] rfl), hf⟩
              · replace hf := hf.trans (if_pos c2)
                refine lv_iload_n hx hb dX9_pass_102 rfl (lv_at hl 0 rfl) ?_
                refine lv_if_lt (tgt := 121) hx hb dX9_pass_103 (by decide) (fun cb => ?_) (fun cb => ?_)
                · replace hf := hf.trans (if_pos cb)
                  refine lv_iload_n hx hb dX9_pass_121 rfl (lv_at hl 1 rfl) ?_
                  refine lv_istore_n (lv' := [(2, .int (nI k)), (3, .int (nI k)), (0, .ref (a 45)), (1, .int b)]) hx hb dX9_pass_122 rfl hl (by decide) rfl (fun ls hl => ?_)
                  refine lv_iinc (v := nI (k + 1)) (lv' := [(3, .int (nI (k + 1))), (2, .int (nI k)), (0, .ref (a 45)), (1, .int b)]) hx hb dX9_pass_123 hl (k := 1) rfl (by first | exact nI_add _ _ | rfl) (by decide) rfl (fun ls hl => ?_)
                  refine lv_goto (tgt := 74) hx hb dX9_pass_126 (by decide) ?_
                  exact ih_lp_pass2 _ _ _ ⟨(nI k), (k + 1), (by omega), (by omega), (by first | exact hx1 | exact Or.inr ⟨k, hk, rfl, ca⟩), hP, hD, hS, (lv_sub hl [1, 0, 2, 3] rfl), hf⟩
                · replace hf := hf.trans (if_neg cb)
                  obtain ⟨j, hj, ej, aj⟩ := hx1.resolve_left (fun e9 => cb (by rw [e9]; decide))
                  have i3 : vp_in x1 40 := by rw [ej]; exact vp_in_nI (by have := hI1.nS.2; omega) (by omega)
                  refine lv_aload_n hx hb dX9_pass_106 rfl (lv_at hl 2 rfl) ?_
                  refine va_get (D := D) (ci := 10) (v := .ref (a 35)) (C := RX9) (T := TX9) (N := 45) hx hb hts im_X9_pass_X9 hown hE.1 hP 0 rfl rfl 35 (by decide) (hts (.fieldLink RX9 79 "RiverBridgesModel" "since" "[I") (by decide +kernel)) (fun _ h9 => h9) rfl dX9_pass_107 ?_
                  refine lv_iload_n hx hb dX9_pass_110 rfl (lv_at hl 1 rfl) ?_
                  refine lx_iald (v := u1.2.2 35 k) hx hb hE.1 hP 22 0 rfl rfl (by assumption) (by (rw [nI_clamp (by omega)]) <;> rfl) dX9_pass_111 ?_
                  refine lv_aload_n hx hb dX9_pass_112 rfl (lv_at hl 2 rfl) ?_
                  refine va_get (D := D) (ci := 10) (v := .ref (a 35)) (C := RX9) (T := TX9) (N := 45) hx hb hts im_X9_pass_X9 hown hE.1 hP 0 rfl rfl 35 (by decide) (hts (.fieldLink RX9 79 "RiverBridgesModel" "since" "[I") (by decide +kernel)) (fun _ h9 => h9) rfl dX9_pass_113 ?_
                  refine lv_iload_n hx hb dX9_pass_116 rfl (lv_at hl 0 rfl) ?_
                  refine lx_iald (v := u1.2.2 35 x1.toNatClampNeg) hx hb hE.1 hP 22 0 rfl rfl (by assumption) (rfl) dX9_pass_117 ?_
                  refine lv_icmp_ge (tgt := 123) hx hb dX9_pass_118 (by decide) (fun c3 => ?_) (fun c3 => ?_)
                  · replace hf := hf.trans (if_pos c3)
                    refine lv_iinc (v := nI (k + 1)) (lv' := [(3, .int (nI (k + 1))), (2, .int x1), (0, .ref (a 45)), (1, .int b)]) hx hb dX9_pass_123 hl (k := 1) rfl (by first | exact nI_add _ _ | rfl) (by decide) rfl (fun ls hl => ?_)
                    refine lv_goto (tgt := 74) hx hb dX9_pass_126 (by decide) ?_
                    exact ih_lp_pass2 _ _ _ ⟨x1, (k + 1), (by omega), (by omega), (by first | exact hx1 | exact Or.inr ⟨k, hk, rfl, ca⟩), hP, hD, hS, (lv_sub hl [1, 0, 2, 3] rfl), hf⟩
                  · replace hf := hf.trans (if_neg c3)
                    refine lv_iload_n hx hb dX9_pass_121 rfl (lv_at hl 1 rfl) ?_
                    refine lv_istore_n (lv' := [(2, .int (nI k)), (3, .int (nI k)), (0, .ref (a 45)), (1, .int b)]) hx hb dX9_pass_122 rfl hl (by decide) rfl (fun ls hl => ?_)
                    refine lv_iinc (v := nI (k + 1)) (lv' := [(3, .int (nI (k + 1))), (2, .int (nI k)), (0, .ref (a 45)), (1, .int b)]) hx hb dX9_pass_123 hl (k := 1) rfl (by first | exact nI_add _ _ | rfl) (by decide) rfl (fun ls hl => ?_)
                    refine lv_goto (tgt := 74) hx hb dX9_pass_126 (by decide) ?_
                    exact ih_lp_pass2 _ _ _ ⟨(nI k), (k + 1), (by omega), (by omega), (by first | exact hx1 | exact Or.inr ⟨k, hk, rfl, ca⟩), hP, hD, hS, (lv_sub hl [1, 0, 2, 3] rfl), hf⟩
      · replace hf := hf.trans (if_neg c1)
        exact ss_vret () hx hb hr hlocks (by rw [hf]; exact hP) (by rw [hf]; exact hD) hS trivial (Nat.le_of_ble_eq_true rfl) (Nat.le_of_ble_eq_true rfl) dX9_pass_69
    · replace hf := hf.trans (if_neg ck)
      have hk : k < nS := nltI hI1.nS.1 (by have := hI1.nS.2; omega) (by omega) ck
      have i2 : vp_in (nI k) 40 := vp_in_nI (by have := hI1.nS.2; omega) (by omega)
      refine lv_aload_n hx hb dX9_pass_10 rfl (lv_at hl 1 rfl) ?_
      refine va_get (D := D) (ci := 10) (v := .ref (a 32)) (C := RX9) (T := TX9) (N := 45) hx hb hts im_X9_pass_X9 hown hE.1 hP 0 rfl rfl 32 (by decide) (hts (.fieldLink RX9 70 "RiverBridgesModel" "ship" "[I") (by decide +kernel)) (fun _ h9 => h9) rfl dX9_pass_11 ?_
      refine lv_iload_n hx hb dX9_pass_14 rfl (lv_at hl 0 rfl) ?_
      refine lx_iald (v := u1.2.2 32 k) hx hb hE.1 hP 19 0 rfl rfl (by assumption) (by (rw [nI_clamp (by omega)]) <;> rfl) dX9_pass_15 ?_
      refine lv_iconst (v := 1) hx hb dX9_pass_16 (by decide) ?_
      refine lv_icmp_ne (tgt := 53) hx hb dX9_pass_17 (by decide) (fun ca => ?_) (fun ca => ?_)
      · replace hf := hf.trans (if_neg ca)
        refine lv_iinc (v := nI (k + 1)) (lv' := [(2, .int (nI (k + 1))), (0, .ref (a 45)), (1, .int b)]) hx hb dX9_pass_53 hl (k := 0) rfl (by first | exact nI_add _ _ | rfl) (by decide) rfl (fun ls hl => ?_)
        refine lv_goto (tgt := 2) hx hb dX9_pass_56 (by decide) ?_
        exact ih_lp_pass1 _ _ _ ⟨u1, (k + 1), (by omega), (by omega), (by first | exact hI1 | exact MI_goThrough hI1 (by rw [nI_clamp (by omega)]; exact hI1.at k hk (Or.inl ca))), hP, hD, hS, (lv_sub hl [0, 1, 2] rfl), hf⟩
      · replace hf := hf.trans (if_pos ca)
        refine lv_aload_n hx hb dX9_pass_20 rfl (lv_at hl 1 rfl) ?_
        refine va_get (D := D) (ci := 10) (v := .ref (a 33)) (C := RX9) (T := TX9) (N := 45) hx hb hts im_X9_pass_X9 hown hE.1 hP 0 rfl rfl 33 (by decide) (hts (.fieldLink RX9 73 "RiverBridgesModel" "where" "[I") (by decide +kernel)) (fun _ h9 => h9) rfl dX9_pass_21 ?_
        refine lv_iload_n hx hb dX9_pass_24 rfl (lv_at hl 0 rfl) ?_
        refine lx_iald (v := u1.2.2 33 k) hx hb hE.1 hP 20 0 rfl rfl (by assumption) (by (rw [nI_clamp (by omega)]) <;> rfl) dX9_pass_25 ?_
        refine lv_iload_n hx hb dX9_pass_26 rfl (lv_at hl 2 rfl) ?_
        refine lv_icmp_ne (tgt := 53) hx hb dX9_pass_27 (by decide) (fun cw => ?_) (fun cw => ?_)
        · replace hf := hf.trans (if_neg cw)
          refine lv_iinc (v := nI (k + 1)) (lv' := [(2, .int (nI (k + 1))), (0, .ref (a 45)), (1, .int b)]) hx hb dX9_pass_53 hl (k := 0) rfl (by first | exact nI_add _ _ | rfl) (by decide) rfl (fun ls hl => ?_)
          refine lv_goto (tgt := 2) hx hb dX9_pass_56 (by decide) ?_
          exact ih_lp_pass1 _ _ _ ⟨u1, (k + 1), (by omega), (by omega), (by first | exact hI1 | exact MI_goThrough hI1 (by rw [nI_clamp (by omega)]; exact hI1.at k hk (Or.inl ca))), hP, hD, hS, (lv_sub hl [0, 1, 2] rfl), hf⟩
        · replace hf := hf.trans (if_pos cw)
          refine lv_aload_n hx hb dX9_pass_30 rfl (lv_at hl 1 rfl) ?_
          refine lv_aload_n hx hb dX9_pass_31 rfl (lv_at hl 1 rfl) ?_
          refine va_get (D := D) (ci := 10) (v := .ref (a 31)) (C := RX9) (T := TX9) (N := 45) hx hb hts im_X9_pass_X9 hown hE.1 hP 0 rfl rfl 31 (by decide) (hts (.fieldLink RX9 67 "RiverBridgesModel" "high" "[I") (by decide +kernel)) (fun _ h9 => h9) rfl dX9_pass_32 ?_
          refine lv_iload_n hx hb dX9_pass_35 rfl (lv_at hl 0 rfl) ?_
          refine lx_iald (v := u1.2.2 31 k) hx hb hE.1 hP 18 0 rfl rfl (by assumption) (by (rw [nI_clamp (by omega)]) <;> rfl) dX9_pass_36 ?_
          refine lv_iload_n hx hb dX9_pass_37 rfl (lv_at hl 2 rfl) ?_
          refine lv_aload_n hx hb dX9_pass_38 rfl (lv_at hl 1 rfl) ?_
          refine va_get (D := D) (ci := 10) (v := .int (u1.1 18)) (C := RX9) (T := TX9) (N := 45) hx hb hts im_X9_pass_X9 hown hE.1 hP 0 rfl rfl 18 (by decide) (hts (.fieldLink RX9 122 "RiverBridgesModel" "minute" "I") (by decide +kernel)) (fun _ h9 => h9) rfl dX9_pass_39 ?_
          refine sf_calli (va_runV (As := [.int (u1.2.2 31 k), .int b, .int (u1.1 18)]) (rest := []) ⟨hx, hb, hml, hown, hts⟩ (m_isUnder l D cI cZ cB cO cJ a0 H.size a  u1 (u1.2.2 31 k) b (u1.1 18) (hbB.mono hI.nB.2) (⟨mi, by have := hI.mi.2; omega, hI1.mi.1⟩)) (cwV 3 hts gX9_pass_X9_isUnder rfl rfl rfl (by decide +kernel) ⟨Nat.le_of_ble_eq_true rfl, Nat.le_of_ble_eq_true rfl⟩) (preV_full hE hZ hA hS hP hD (va_recv hE.1 hP (ci := 10) (q0 := 0) rfl rfl)) rfl rfl hl.1 rfl (lv_room (Nat.le_of_ble_eq_true rfl)) dX9_pass_42 ⟨Nat.le_of_ble_eq_true rfl, Nat.le_of_ble_eq_true rfl⟩) hP hD hS hA (fun r9 u9 H locs hw hP hD hS => ?_)
          subst hw
          have hP : va_P D vwCl (WM cI cZ cB a u1) H := hP
          have hD : va_D A (WM cI cZ cB a u1) := hD
          refine lv_if_eq (tgt := 53) hx hb dX9_pass_45 (by decide) (fun c4 => ?_) (fun c4 => ?_)
          · replace hf := hf.trans (if_pos c4)
            refine lv_iinc (v := nI (k + 1)) (lv' := [(2, .int (nI (k + 1))), (0, .ref (a 45)), (1, .int b)]) hx hb dX9_pass_53 hl (k := 0) rfl (by first | exact nI_add _ _ | rfl) (by decide) rfl (fun ls hl => ?_)
            refine lv_goto (tgt := 2) hx hb dX9_pass_56 (by decide) ?_
            exact ih_lp_pass1 _ _ _ ⟨u1, (k + 1), (by omega), (by omega), (by first | exact hI1 | exact MI_goThrough hI1 (by rw [nI_clamp (by omega)]; exact hI1.at k hk (Or.inl ca))), hP, hD, hS, (lv_sub hl [0, 1, 2] rfl), hf⟩
          · replace hf := hf.trans (if_neg c4)
            refine lv_aload_n hx hb dX9_pass_48 rfl (lv_at hl 1 rfl) ?_
            refine lv_iload_n hx hb dX9_pass_49 rfl (lv_at hl 0 rfl) ?_
            refine sf_callv (va_runV (As := [.int (nI k)]) (rest := []) ⟨hx, hb, hml, hown, hts⟩ (m_goThrough l D cI cZ cB cO cJ a0 H.size a _ _ _ _ _  u1 (nI k) (hI1) (⟨k, hk, rfl⟩) (by rw [nI_clamp (by omega)]; exact hI1.at k hk (Or.inl ca))) (cwV 1 hts gX9_pass_X9_goThrough rfl rfl rfl (by decide +kernel) ⟨Nat.le_of_ble_eq_true rfl, Nat.le_of_ble_eq_true rfl⟩) (preV_full hE hZ hA hS hP hD (va_recv hE.1 hP (ci := 10) (q0 := 0) rfl rfl)) rfl rfl hl.1 rfl (lv_room (Nat.le_of_ble_eq_true rfl)) dX9_pass_50 ⟨Nat.le_of_ble_eq_true rfl, Nat.le_of_ble_eq_true rfl⟩) hP hD hS hA (fun u9 H locs hw hP hD hS => ?_)
            have hP : va_P D vwCl (WM cI cZ cB a (f_goThrough u1 (nI k))) H := hP
            have hD : va_D A (WM cI cZ cB a (f_goThrough u1 (nI k))) := hD
            refine lv_iinc (v := nI (k + 1)) (lv' := [(2, .int (nI (k + 1))), (0, .ref (a 45)), (1, .int b)]) hx hb dX9_pass_53 hl (k := 0) rfl (by first | exact nI_add _ _ | rfl) (by decide) rfl (fun ls hl => ?_)
            refine lv_goto (tgt := 2) hx hb dX9_pass_56 (by decide) ?_
            exact ih_lp_pass1 _ _ _ ⟨(f_goThrough u1 (nI k)), (k + 1), (by omega), (by omega), (by first | exact hI1 | exact MI_goThrough hI1 (by rw [nI_clamp (by omega)]; exact hI1.at k hk (Or.inl ca))), hP, hD, hS, (lv_sub hl [0, 1, 2] rfl), hf⟩
def lp_come3  : Nat → RS → Nat → RS
  | 0, u3, k => u3
  | n + 1, u3, k => (if u3.1 17 ≤ nI k then u3 else (if u3.2.2 12 k = u3.1 18 then (if u3.2.2 11 k = 1 then (lp_come3  n (sa (sa u3 11 k 2) 12 k (-1)) (k + 1)) else (lp_come3  n (sa (sa u3 11 k 0) 12 k (-1)) (k + 1))) else (lp_come3  n u3 (k + 1))))
theorem lp_come3_s  (n : Nat) (u3 : RS) (k : Nat) : lp_come3  (n + 1) u3 k = (if u3.1 17 ≤ nI k then u3 else (if u3.2.2 12 k = u3.1 18 then (if u3.2.2 11 k = 1 then (lp_come3  n (sa (sa u3 11 k 2) 12 k (-1)) (k + 1)) else (lp_come3  n (sa (sa u3 11 k 0) 12 k (-1)) (k + 1))) else (lp_come3  n u3 (k + 1)))) := rfl
def lp_come2  : Nat → RS → Nat → RS
  | 0, u2, k => u2
  | n + 1, u2, k => (if u2.1 44 ≤ nI k then u2 else (if u2.2.2 43 k = u2.1 18 then (lp_come2  n (sa (sa (sa u2 41 k (u2.2.2 42 k)) 42 k (-1)) 43 k (-1)) (k + 1)) else (lp_come2  n u2 (k + 1))))
theorem lp_come2_s  (n : Nat) (u2 : RS) (k : Nat) : lp_come2  (n + 1) u2 k = (if u2.1 44 ≤ nI k then u2 else (if u2.2.2 43 k = u2.1 18 then (lp_come2  n (sa (sa (sa u2 41 k (u2.2.2 42 k)) 42 k (-1)) 43 k (-1)) (k + 1)) else (lp_come2  n u2 (k + 1)))) := rfl
def lp_come1  : Nat → RS → Nat → RS
  | 0, u1, k => u1
  | n + 1, u1, k => (if u1.1 40 ≤ nI k then u1 else (if u1.2.2 32 k = 0 then (if u1.2.2 34 k = u1.1 18 then (lp_come1  n (sa (sa (sa u1 33 k (f_first u1 (u1.2.2 39 k))) 32 k 1) 35 k (u1.1 18)) (k + 1)) else (lp_come1  n u1 (k + 1))) else (if u1.2.2 32 k = 2 then (if u1.2.2 34 k = u1.1 18 then (lp_come1  n (sa (sa (sa u1 33 k (u1.2.2 33 k)) 32 k 1) 35 k (u1.1 18)) (k + 1)) else (lp_come1  n u1 (k + 1))) else (lp_come1  n u1 (k + 1)))))
theorem lp_come1_s  (n : Nat) (u1 : RS) (k : Nat) : lp_come1  (n + 1) u1 k = (if u1.1 40 ≤ nI k then u1 else (if u1.2.2 32 k = 0 then (if u1.2.2 34 k = u1.1 18 then (lp_come1  n (sa (sa (sa u1 33 k (f_first u1 (u1.2.2 39 k))) 32 k 1) 35 k (u1.1 18)) (k + 1)) else (lp_come1  n u1 (k + 1))) else (if u1.2.2 32 k = 2 then (if u1.2.2 34 k = u1.1 18 then (lp_come1  n (sa (sa (sa u1 33 k (u1.2.2 33 k)) 32 k 1) 35 k (u1.1 18)) (k + 1)) else (lp_come1  n u1 (k + 1))) else (lp_come1  n u1 (k + 1))))) := rfl
def f_come (u : RS) : RS := (lp_come3  9 (lp_come2  5 (lp_come1  41 u 0) 0) 0)
theorem f_come_s (u : RS) : f_come u = (lp_come3  9 (lp_come2  5 (lp_come1  41 u 0) 0) 0) := rfl
theorem im_X9_come_X9 : ∀ w ∈ wsX90, w ∈ wsX9_come := fun _ h => List.mem_cons_of_mem _ (List.mem_append_right _ h)
set_option maxHeartbeats 400000 in
set_option maxRecDepth 100000 in
theorem m_come (l : Launch) (D : va_G) (cI cZ cB cO cJ : ClassId) (a0 sz : Nat) (a : Nat → Nat) (nB nS nK mi ln : Nat) (u : RS) (hI : MI nB nS nK mi ln u) : Met l yX9_come wsX9_come ({ frames := 1, cells := 0, slots := 0, locals := 21 }) (Pcs D cI cZ cB cO cJ a0 [.ref (a 45)] (WM cI cZ cB a u) sz) (va_Qv (fun (_ : Unit) => True) (fun (_ : Unit) t => va_P D vwCl (WM cI cZ cB a (f_come u)) t.heap ∧ va_D (va_A (WM cI cZ cB a u) sz) (WM cI cZ cB a (f_come u))) (va_A (WM cI cZ cB a u) sz)) 0 0 (va_A (WM cI cZ cB a u) sz) := by
  refine Met.ofW (cc := cX9_come) (maxL := 2) (ret := none) (by decide) rfl ?_
  intro p e s m args below meth c s₁ B hml hv
  obtain ⟨rfl, hsz, hP, hE, hD0, hZ⟩ := hv
  have hx := B.exec
  have hb := B.bytes
  have hr := B.returns
  have hts := atoms_spec (ws := wsX9_come) B.pre
  have hown : s.vm.findClass RX9 = some m.cls := findClass_of_methodNamed B.named
  have hlocks := B.notSynchronized
  subst hsz
  have hD := hD0.self (sz := s.heap.size)
  generalize hAe : va_A (WM cI cZ cB a u) s.heap.size = A at hD hZ ⊢
  have hA : ∀ q : Nat, s.heap.size ≤ q → A q := fun q h => by rw [← hAe]; exact Or.inr h
  clear hAe
  have hS : va_S A s.heap s.heap [] := va_S.rf
  have hP : va_P D vwCl (WM cI cZ cB a u) s.heap := hP
  have hl := lv_entry ([.ref (a 45)]) (n := 2) (Nat.le_of_ble_eq_true rfl)
  rw [lg_entry_eq]
  generalize (lg_sl ([.ref (a 45)]) ++ List.replicate (2 - (lg_sl ([.ref (a 45)])).length) Slot.unset).toArray = ls at hl ⊢
  have hl : lv_has ls 2 [(0, .ref (a 45))] := hl
  have hf := f_come_s u
  refine lv_iconst (v := 0) hx hb dX9_come_0 (by decide) ?_
  refine lv_istore_n (lv' := [(1, .int 0), (0, .ref (a 45))]) hx hb dX9_come_1 rfl hl (by decide) rfl (fun ls hl => ?_)
  have hf_lp_come1 := hf
  refine ss_ind (J := fun n H locs ls => ∃ (u1 : RS) (k : Nat), (k + n = 41) ∧ (k ≤ nS) ∧ (MI nB nS nK mi ln u1) ∧ va_P D vwCl (WM cI cZ cB a u1) H ∧ va_D A (WM cI cZ cB a u1) ∧ va_S A s.heap H locs ∧ lv_has ls 2 [(1, .int (nI k)), (0, .ref (a 45))] ∧ lp_come1  41 u 0 = lp_come1  n u1 k) ?_ ?_ (41) _ _ _ ⟨u, 0, (rfl), (Nat.zero_le _), (hI), hP, hD, hS, (lv_sub hl [0, 1] rfl), rfl⟩
  all_goals clear hf
  · intro H locs ls hJ
    obtain ⟨u1, k, hkn, hkw, hI1, hP, hD, hS, hl, hf⟩ := hJ
    have := hI.nS.2; omega
  · intro n_lp_come1 ih_lp_come1 H locs ls hJ
    obtain ⟨u1, k, hkn, hkw, hI1, hP, hD, hS, hl, hf⟩ := hJ
    replace hf := hf.trans (lp_come1_s  n_lp_come1 _ _)
    refine lv_iload_n hx hb dX9_come_2 rfl (lv_at hl 0 rfl) ?_
    refine lv_aload_n hx hb dX9_come_3 rfl (lv_at hl 1 rfl) ?_
    refine va_get (D := D) (ci := 10) (v := .int (u1.1 40)) (C := RX9) (T := TX9) (N := 45) hx hb hts im_X9_come_X9 hown hE.1 hP 0 rfl rfl 40 (by decide) (hts (.fieldLink RX9 208 "RiverBridgesModel" "ships" "I") (by decide +kernel)) (fun _ h9 => h9) rfl dX9_come_4 ?_
    refine lv_icmp_ge (tgt := 102) hx hb dX9_come_7 (by decide) (fun ck => ?_) (fun ck => ?_)
    · replace hf := hf.trans (if_pos ck)
      have e90 : (lp_come1  41 u 0) = u1 := by rw [hf]
      clear hf
      have hf := hf_lp_come1
      try rw [e90] at hf
      clear ih_lp_come1 e90
      have hl : lv_has ls 2 [(0, .ref (a 45))] := lv_sub hl [1] rfl
      refine lv_iconst (v := 0) hx hb dX9_come_102 (by decide) ?_
      refine lv_istore_n (lv' := [(1, .int 0), (0, .ref (a 45))]) hx hb dX9_come_103 rfl hl (by decide) rfl (fun ls hl => ?_)
      have hf_lp_come2 := hf
      refine ss_ind (J := fun n H locs ls => ∃ (u2 : RS) (k : Nat), (k + n = 5) ∧ (k ≤ nK) ∧ (MI nB nS nK mi ln u2) ∧ va_P D vwCl (WM cI cZ cB a u2) H ∧ va_D A (WM cI cZ cB a u2) ∧ va_S A s.heap H locs ∧ lv_has ls 2 [(1, .int (nI k)), (0, .ref (a 45))] ∧ lp_come2  5 u1 0 = lp_come2  n u2 k) ?_ ?_ (5) _ _ _ ⟨u1, 0, (rfl), (Nat.zero_le _), (hI1), hP, hD, hS, (lv_sub hl [0, 1] rfl), rfl⟩
      all_goals clear hf
      · intro H locs ls hJ
        obtain ⟨u2, k, hkn, hkw, hI2, hP, hD, hS, hl, hf⟩ := hJ
        have := hI.nK.2; omega
      · intro n_lp_come2 ih_lp_come2 H locs ls hJ
        obtain ⟨u2, k, hkn, hkw, hI2, hP, hD, hS, hl, hf⟩ := hJ
        replace hf := hf.trans (lp_come2_s  n_lp_come2 _ _)
        refine lv_iload_n hx hb dX9_come_104 rfl (lv_at hl 0 rfl) ?_
        refine lv_aload_n hx hb dX9_come_105 rfl (lv_at hl 1 rfl) ?_
        refine va_get (D := D) (ci := 10) (v := .int (u2.1 44)) (C := RX9) (T := TX9) (N := 45) hx hb hts im_X9_come_X9 hown hE.1 hP 0 rfl rfl 44 (by decide) (hts (.fieldLink RX9 215 "RiverBridgesModel" "keepers" "I") (by decide +kernel)) (fun _ h9 => h9) rfl dX9_come_106 ?_
        refine lv_icmp_ge (tgt := 160) hx hb dX9_come_109 (by decide) (fun ck => ?_) (fun ck => ?_)
        · replace hf := hf.trans (if_pos ck)
          have e90 : (lp_come2  5 u1 0) = u2 := by rw [hf]
          clear hf
          have hf := hf_lp_come2
          try rw [e90] at hf
          clear ih_lp_come2 e90
          have hl : lv_has ls 2 [(0, .ref (a 45))] := lv_sub hl [1] rfl
          refine lv_iconst (v := 0) hx hb dX9_come_160 (by decide) ?_
          refine lv_istore_n (lv' := [(1, .int 0), (0, .ref (a 45))]) hx hb dX9_come_161 rfl hl (by decide) rfl (fun ls hl => ?_)
          have hf_lp_come3 := hf
          refine ss_ind (J := fun n H locs ls => ∃ (u3 : RS) (k : Nat), (k + n = 9) ∧ (k ≤ nB) ∧ (MI nB nS nK mi ln u3) ∧ va_P D vwCl (WM cI cZ cB a u3) H ∧ va_D A (WM cI cZ cB a u3) ∧ va_S A s.heap H locs ∧ lv_has ls 2 [(1, .int (nI k)), (0, .ref (a 45))] ∧ lp_come3  9 u2 0 = lp_come3  n u3 k) ?_ ?_ (9) _ _ _ ⟨u2, 0, (rfl), (Nat.zero_le _), (hI2), hP, hD, hS, (lv_sub hl [0, 1] rfl), rfl⟩
          all_goals clear hf
          · intro H locs ls hJ
            obtain ⟨u3, k, hkn, hkw, hI3, hP, hD, hS, hl, hf⟩ := hJ
            have := hI.nB.2; omega
          · intro n_lp_come3 ih_lp_come3 H locs ls hJ
            obtain ⟨u3, k, hkn, hkw, hI3, hP, hD, hS, hl, hf⟩ := hJ
            replace hf := hf.trans (lp_come3_s  n_lp_come3 _ _)
            refine lv_iload_n hx hb dX9_come_162 rfl (lv_at hl 0 rfl) ?_
            refine lv_aload_n hx hb dX9_come_163 rfl (lv_at hl 1 rfl) ?_
            refine va_get (D := D) (ci := 10) (v := .int (u3.1 17)) (C := RX9) (T := TX9) (N := 45) hx hb hts im_X9_come_X9 hown hE.1 hP 0 rfl rfl 17 (by decide) (hts (.fieldLink RX9 119 "RiverBridgesModel" "bridges" "I") (by decide +kernel)) (fun _ h9 => h9) rfl dX9_come_164 ?_
            refine lv_icmp_ge (tgt := 220) hx hb dX9_come_167 (by decide) (fun ck => ?_) (fun ck => ?_)
            · replace hf := hf.trans (if_pos ck)
              have e90 : (lp_come3  9 u2 0) = u3 := by rw [hf]
              clear hf
              have hf := hf_lp_come3
              try rw [e90] at hf
              clear ih_lp_come3 e90
              have hl : lv_has ls 2 [(0, .ref (a 45))] := lv_sub hl [1] rfl
              exact ss_vret () hx hb hr hlocks (by rw [hf]; exact hP) (by rw [hf]; exact hD) hS trivial (Nat.le_of_ble_eq_true rfl) (Nat.le_of_ble_eq_true rfl) dX9_come_220
            · replace hf := hf.trans (if_neg ck)
              have hk : k < nB := nltI hI3.nB.1 (by have := hI3.nB.2; omega) (by omega) ck
              have i2 : vp_in (nI k) 8 := vp_in_nI (by have := hI3.nB.2; omega) (by omega)
              refine lv_aload_n hx hb dX9_come_170 rfl (lv_at hl 1 rfl) ?_
              refine va_get (D := D) (ci := 10) (v := .ref (a 12)) (C := RX9) (T := TX9) (N := 45) hx hb hts im_X9_come_X9 hown hE.1 hP 0 rfl rfl 12 (by decide) (hts (.fieldLink RX9 35 "RiverBridgesModel" "until" "[I") (by decide +kernel)) (fun _ h9 => h9) rfl dX9_come_171 ?_
              refine lv_iload_n hx hb dX9_come_174 rfl (lv_at hl 0 rfl) ?_
              refine lx_iald (v := u3.2.2 12 k) hx hb hE.1 hP 9 0 rfl rfl (by assumption) (by (rw [nI_clamp (by omega)]) <;> rfl) dX9_come_175 ?_
              refine lv_aload_n hx hb dX9_come_176 rfl (lv_at hl 1 rfl) ?_
              refine va_get (D := D) (ci := 10) (v := .int (u3.1 18)) (C := RX9) (T := TX9) (N := 45) hx hb hts im_X9_come_X9 hown hE.1 hP 0 rfl rfl 18 (by decide) (hts (.fieldLink RX9 122 "RiverBridgesModel" "minute" "I") (by decide +kernel)) (fun _ h9 => h9) rfl dX9_come_177 ?_
              refine lv_icmp_eq (tgt := 186) hx hb dX9_come_180 (by decide) (fun c1 => ?_) (fun c1 => ?_)
              · replace hf := hf.trans (if_pos c1)
                refine lv_aload_n hx hb dX9_come_186 rfl (lv_at hl 1 rfl) ?_
                refine va_get (D := D) (ci := 10) (v := .ref (a 11)) (C := RX9) (T := TX9) (N := 45) hx hb hts im_X9_come_X9 hown hE.1 hP 0 rfl rfl 11 (by decide) (hts (.fieldLink RX9 32 "RiverBridgesModel" "state" "[I") (by decide +kernel)) (fun _ h9 => h9) rfl dX9_come_187 ?_
                refine lv_iload_n hx hb dX9_come_190 rfl (lv_at hl 0 rfl) ?_
                refine lv_aload_n hx hb dX9_come_191 rfl (lv_at hl 1 rfl) ?_
                refine va_get (D := D) (ci := 10) (v := .ref (a 11)) (C := RX9) (T := TX9) (N := 45) hx hb hts im_X9_come_X9 hown hE.1 hP 0 rfl rfl 11 (by decide) (hts (.fieldLink RX9 32 "RiverBridgesModel" "state" "[I") (by decide +kernel)) (fun _ h9 => h9) rfl dX9_come_192 ?_
                refine lv_iload_n hx hb dX9_come_195 rfl (lv_at hl 0 rfl) ?_
                refine lx_iald (v := u3.2.2 11 k) hx hb hE.1 hP 8 0 rfl rfl (by assumption) (by (rw [nI_clamp (by omega)]) <;> rfl) dX9_come_196 ?_
                refine lv_iconst (v := 1) hx hb dX9_come_197 (by decide) ?_
                refine lv_icmp_ne (tgt := 205) hx hb dX9_come_198 (by decide) (fun c2 => ?_) (fun c2 => ?_)
                · replace hf := hf.trans (if_neg c2)
                  refine lv_iconst (v := 0) hx hb dX9_come_205 (by decide) ?_
                  refine lx_iast (g := upd (u3.2.2 11) k 0) hx hb hE.1 hP hD hS 8 0 rfl rfl (by assumption) (by (rw [nI_clamp (by omega)]) <;> rfl) dX9_come_206 (fun H locs hP hD hS => ?_)
                  have hP := va_P_eq (WM_a11 cI cZ cB a u3 k 0) hP
                  have hD := va_D_eq (WM_a11 cI cZ cB a u3 k 0) hD
                  refine lv_aload_n hx hb dX9_come_207 rfl (lv_at hl 1 rfl) ?_
                  refine va_get (D := D) (ci := 10) (v := .ref (a 12)) (C := RX9) (T := TX9) (N := 45) hx hb hts im_X9_come_X9 hown hE.1 hP 0 rfl rfl 12 (by decide) (hts (.fieldLink RX9 35 "RiverBridgesModel" "until" "[I") (by decide +kernel)) (fun _ h9 => h9) rfl dX9_come_208 ?_
                  refine lv_iload_n hx hb dX9_come_211 rfl (lv_at hl 0 rfl) ?_
                  refine lv_iconst (v := -1) hx hb dX9_come_212 (by decide) ?_
                  refine lx_iast (g := upd (u3.2.2 12) k (-1)) hx hb hE.1 hP hD hS 9 0 rfl rfl (by assumption) (by (rw [nI_clamp (by omega)]) <;> rfl) dX9_come_213 (fun H locs hP hD hS => ?_)
                  have hP := va_P_eq (WM_a12 cI cZ cB a (sa u3 11 k 0) k (-1)) hP
                  have hD := va_D_eq (WM_a12 cI cZ cB a (sa u3 11 k 0) k (-1)) hD
                  refine lv_iinc (v := nI (k + 1)) (lv' := [(1, .int (nI (k + 1))), (0, .ref (a 45))]) hx hb dX9_come_214 hl (k := 0) rfl (by first | exact nI_add _ _ | rfl) (by decide) rfl (fun ls hl => ?_)
                  refine lv_goto (tgt := 162) hx hb dX9_come_217 (by decide) ?_
                  exact ih_lp_come3 _ _ _ ⟨(sa (sa u3 11 k 0) 12 k (-1)), (k + 1), (by omega), (by omega), (MI_sa (MI_sa hI3 (by decide)) (by decide)), hP, hD, hS, (lv_sub hl [0, 1] rfl), hf⟩
                · replace hf := hf.trans (if_pos c2)
                  refine lv_iconst (v := 2) hx hb dX9_come_201 (by decide) ?_
                  refine lv_goto (tgt := 206) hx hb dX9_come_202 (by decide) ?_
                  refine lx_iast (g := upd (u3.2.2 11) k 2) hx hb hE.1 hP hD hS 8 0 rfl rfl (by assumption) (by (rw [nI_clamp (by omega)]) <;> rfl) dX9_come_206 (fun H locs hP hD hS => ?_)
                  have hP := va_P_eq (WM_a11 cI cZ cB a u3 k 2) hP
                  have hD := va_D_eq (WM_a11 cI cZ cB a u3 k 2) hD
                  refine lv_aload_n hx hb dX9_come_207 rfl (lv_at hl 1 rfl) ?_
                  refine va_get (D := D) (ci := 10) (v := .ref (a 12)) (C := RX9) (T := TX9) (N := 45) hx hb hts im_X9_come_X9 hown hE.1 hP 0 rfl rfl 12 (by decide) (hts (.fieldLink RX9 35 "RiverBridgesModel" "until" "[I") (by decide +kernel)) (fun _ h9 => h9) rfl dX9_come_208 ?_
                  refine lv_iload_n hx hb dX9_come_211 rfl (lv_at hl 0 rfl) ?_
                  refine lv_iconst (v := -1) hx hb dX9_come_212 (by decide) ?_
                  refine lx_iast (g := upd (u3.2.2 12) k (-1)) hx hb hE.1 hP hD hS 9 0 rfl rfl (by assumption) (by (rw [nI_clamp (by omega)]) <;> rfl) dX9_come_213 (fun H locs hP hD hS => ?_)
                  have hP := va_P_eq (WM_a12 cI cZ cB a (sa u3 11 k 2) k (-1)) hP
                  have hD := va_D_eq (WM_a12 cI cZ cB a (sa u3 11 k 2) k (-1)) hD
                  refine lv_iinc (v := nI (k + 1)) (lv' := [(1, .int (nI (k + 1))), (0, .ref (a 45))]) hx hb dX9_come_214 hl (k := 0) rfl (by first | exact nI_add _ _ | rfl) (by decide) rfl (fun ls hl => ?_)
                  refine lv_goto (tgt := 162) hx hb dX9_come_217 (by decide) ?_
                  exact ih_lp_come3 _ _ _ ⟨(sa (sa u3 11 k 2) 12 k (-1)), (k + 1), (by omega), (by omega), (MI_sa (MI_sa hI3 (by decide)) (by decide)), hP, hD, hS, (lv_sub hl [0, 1] rfl), hf⟩
              · replace hf := hf.trans (if_neg c1)
                refine lv_goto (tgt := 214) hx hb dX9_come_183 (by decide) ?_
                refine lv_iinc (v := nI (k + 1)) (lv' := [(1, .int (nI (k + 1))), (0, .ref (a 45))]) hx hb dX9_come_214 hl (k := 0) rfl (by first | exact nI_add _ _ | rfl) (by decide) rfl (fun ls hl => ?_)
                refine lv_goto (tgt := 162) hx hb dX9_come_217 (by decide) ?_
                exact ih_lp_come3 _ _ _ ⟨u3, (k + 1), (by omega), (by omega), (hI3), hP, hD, hS, (lv_sub hl [0, 1] rfl), hf⟩
        · replace hf := hf.trans (if_neg ck)
          have hk : k < nK := nltI hI2.nK.1 (by have := hI2.nK.2; omega) (by omega) ck
          have i2 : vp_in (nI k) 4 := vp_in_nI (by have := hI2.nK.2; omega) (by omega)
          refine lv_aload_n hx hb dX9_come_112 rfl (lv_at hl 1 rfl) ?_
          refine va_get (D := D) (ci := 10) (v := .ref (a 43)) (C := RX9) (T := TX9) (N := 45) hx hb hts im_X9_come_X9 hown hE.1 hP 0 rfl rfl 43 (by decide) (hts (.fieldLink RX9 100 "RiverBridgesModel" "keeperDue" "[I") (by decide +kernel)) (fun _ h9 => h9) rfl dX9_come_113 ?_
          refine lv_iload_n hx hb dX9_come_116 rfl (lv_at hl 0 rfl) ?_
          refine lx_iald (v := u2.2.2 43 k) hx hb hE.1 hP 29 0 rfl rfl (by assumption) (by (rw [nI_clamp (by omega)]) <;> rfl) dX9_come_117 ?_
          refine lv_aload_n hx hb dX9_come_118 rfl (lv_at hl 1 rfl) ?_
          refine va_get (D := D) (ci := 10) (v := .int (u2.1 18)) (C := RX9) (T := TX9) (N := 45) hx hb hts im_X9_come_X9 hown hE.1 hP 0 rfl rfl 18 (by decide) (hts (.fieldLink RX9 122 "RiverBridgesModel" "minute" "I") (by decide +kernel)) (fun _ h9 => h9) rfl dX9_come_119 ?_
          refine lv_icmp_eq (tgt := 128) hx hb dX9_come_122 (by decide) (fun c3 => ?_) (fun c3 => ?_)
          · replace hf := hf.trans (if_pos c3)
            refine lv_aload_n hx hb dX9_come_128 rfl (lv_at hl 1 rfl) ?_
            refine va_get (D := D) (ci := 10) (v := .ref (a 41)) (C := RX9) (T := TX9) (N := 45) hx hb hts im_X9_come_X9 hown hE.1 hP 0 rfl rfl 41 (by decide) (hts (.fieldLink RX9 94 "RiverBridgesModel" "keeperAt" "[I") (by decide +kernel)) (fun _ h9 => h9) rfl dX9_come_129 ?_
            refine lv_iload_n hx hb dX9_come_132 rfl (lv_at hl 0 rfl) ?_
            refine lv_aload_n hx hb dX9_come_133 rfl (lv_at hl 1 rfl) ?_
            refine va_get (D := D) (ci := 10) (v := .ref (a 42)) (C := RX9) (T := TX9) (N := 45) hx hb hts im_X9_come_X9 hown hE.1 hP 0 rfl rfl 42 (by decide) (hts (.fieldLink RX9 97 "RiverBridgesModel" "keeperTo" "[I") (by decide +kernel)) (fun _ h9 => h9) rfl dX9_come_134 ?_
            refine lv_iload_n hx hb dX9_come_137 rfl (lv_at hl 0 rfl) ?_
            refine lx_iald (v := u2.2.2 42 k) hx hb hE.1 hP 28 0 rfl rfl (by assumption) (by (rw [nI_clamp (by omega)]) <;> rfl) dX9_come_138 ?_
            refine lx_iast (g := upd (u2.2.2 41) k (u2.2.2 42 k)) hx hb hE.1 hP hD hS 27 0 rfl rfl (by assumption) (by (rw [nI_clamp (by omega)]) <;> rfl) dX9_come_139 (fun H locs hP hD hS => ?_)
            have hP := va_P_eq (WM_a41 cI cZ cB a u2 k (u2.2.2 42 k)) hP
            have hD := va_D_eq (WM_a41 cI cZ cB a u2 k (u2.2.2 42 k)) hD
            refine lv_aload_n hx hb dX9_come_140 rfl (lv_at hl 1 rfl) ?_
            refine va_get (D := D) (ci := 10) (v := .ref (a 42)) (C := RX9) (T := TX9) (N := 45) hx hb hts im_X9_come_X9 hown hE.1 hP 0 rfl rfl 42 (by decide) (hts (.fieldLink RX9 97 "RiverBridgesModel" "keeperTo" "[I") (by decide +kernel)) (fun _ h9 => h9) rfl dX9_come_141 ?_
            refine lv_iload_n hx hb dX9_come_144 rfl (lv_at hl 0 rfl) ?_
            refine lv_iconst (v := -1) hx hb dX9_come_145 (by decide) ?_
            refine lx_iast (g := upd (u2.2.2 42) k (-1)) hx hb hE.1 hP hD hS 28 0 rfl rfl (by assumption) (by (rw [nI_clamp (by omega)]) <;> rfl) dX9_come_146 (fun H locs hP hD hS => ?_)
            have hP := va_P_eq (WM_a42 cI cZ cB a (sa u2 41 k (u2.2.2 42 k)) k (-1)) hP
            have hD := va_D_eq (WM_a42 cI cZ cB a (sa u2 41 k (u2.2.2 42 k)) k (-1)) hD
            refine lv_aload_n hx hb dX9_come_147 rfl (lv_at hl 1 rfl) ?_
            refine va_get (D := D) (ci := 10) (v := .ref (a 43)) (C := RX9) (T := TX9) (N := 45) hx hb hts im_X9_come_X9 hown hE.1 hP 0 rfl rfl 43 (by decide) (hts (.fieldLink RX9 100 "RiverBridgesModel" "keeperDue" "[I") (by decide +kernel)) (fun _ h9 => h9) rfl dX9_come_148 ?_
            refine lv_iload_n hx hb dX9_come_151 rfl (lv_at hl 0 rfl) ?_
            refine lv_iconst (v := -1) hx hb dX9_come_152 (by decide) ?_
            refine lx_iast (g := upd (u2.2.2 43) k (-1)) hx hb hE.1 hP hD hS 29 0 rfl rfl (by assumption) (by (rw [nI_clamp (by omega)]) <;> rfl) dX9_come_153 (fun H locs hP hD hS => ?_)
            have hP := va_P_eq (WM_a43 cI cZ cB a (sa (sa u2 41 k (u2.2.2 42 k)) 42 k (-1)) k (-1)) hP
            have hD := va_D_eq (WM_a43 cI cZ cB a (sa (sa u2 41 k (u2.2.2 42 k)) 42 k (-1)) k (-1)) hD
            refine lv_iinc (v := nI (k + 1)) (lv' := [(1, .int (nI (k + 1))), (0, .ref (a 45))]) hx hb dX9_come_154 hl (k := 0) rfl (by first | exact nI_add _ _ | rfl) (by decide) rfl (fun ls hl => ?_)
            refine lv_goto (tgt := 104) hx hb dX9_come_157 (by decide) ?_
            exact ih_lp_come2 _ _ _ ⟨(sa (sa (sa u2 41 k (u2.2.2 42 k)) 42 k (-1)) 43 k (-1)), (k + 1), (by omega), (by omega), (MI_sa (MI_42 (MI_41 hI2 (hI2.kT k hk)) (Or.inl rfl)) (by decide)), hP, hD, hS, (lv_sub hl [0, 1] rfl), hf⟩
          · replace hf := hf.trans (if_neg c3)
            refine lv_goto (tgt := 154) hx hb dX9_come_125 (by decide) ?_
            refine lv_iinc (v := nI (k + 1)) (lv' := [(1, .int (nI (k + 1))), (0, .ref (a 45))]) hx hb dX9_come_154 hl (k := 0) rfl (by first | exact nI_add _ _ | rfl) (by decide) rfl (fun ls hl => ?_)
            refine lv_goto (tgt := 104) hx hb dX9_come_157 (by decide) ?_
            exact ih_lp_come2 _ _ _ ⟨u2, (k + 1), (by omega), (by omega), (hI2), hP, hD, hS, (lv_sub hl [0, 1] rfl), hf⟩
    · replace hf := hf.trans (if_neg ck)
      have hk : k < nS := nltI hI1.nS.1 (by have := hI1.nS.2; omega) (by omega) ck
      have i2 : vp_in (nI k) 40 := vp_in_nI (by have := hI1.nS.2; omega) (by omega)
      refine lv_aload_n hx hb dX9_come_10 rfl (lv_at hl 1 rfl) ?_
      refine va_get (D := D) (ci := 10) (v := .ref (a 32)) (C := RX9) (T := TX9) (N := 45) hx hb hts im_X9_come_X9 hown hE.1 hP 0 rfl rfl 32 (by decide) (hts (.fieldLink RX9 70 "RiverBridgesModel" "ship" "[I") (by decide +kernel)) (fun _ h9 => h9) rfl dX9_come_11 ?_
      refine lv_iload_n hx hb dX9_come_14 rfl (lv_at hl 0 rfl) ?_
      refine lx_iald (v := u1.2.2 32 k) hx hb hE.1 hP 19 0 rfl rfl (by assumption) (by (rw [nI_clamp (by omega)]) <;> rfl) dX9_come_15 ?_
      refine lv_if_eq (tgt := 29) hx hb dX9_come_16 (by decide) (fun cz => ?_) (fun cz => ?_)
      · replace hf := hf.trans (if_pos cz)
        refine lv_aload_n hx hb dX9_come_29 rfl (lv_at hl 1 rfl) ?_
        refine va_get (D := D) (ci := 10) (v := .ref (a 34)) (C := RX9) (T := TX9) (N := 45) hx hb hts im_X9_come_X9 hown hE.1 hP 0 rfl rfl 34 (by decide) (hts (.fieldLink RX9 76 "RiverBridgesModel" "due" "[I") (by decide +kernel)) (fun _ h9 => h9) rfl dX9_come_30 ?_
        refine lv_iload_n hx hb dX9_come_33 rfl (lv_at hl 0 rfl) ?_
        refine lx_iald (v := u1.2.2 34 k) hx hb hE.1 hP 21 0 rfl rfl (by assumption) (by (rw [nI_clamp (by omega)]) <;> rfl) dX9_come_34 ?_
        refine lv_aload_n hx hb dX9_come_35 rfl (lv_at hl 1 rfl) ?_
        refine va_get (D := D) (ci := 10) (v := .int (u1.1 18)) (C := RX9) (T := TX9) (N := 45) hx hb hts im_X9_come_X9 hown hE.1 hP 0 rfl rfl 18 (by decide) (hts (.fieldLink RX9 122 "RiverBridgesModel" "minute" "I") (by decide +kernel)) (fun _ h9 => h9) rfl dX9_come_36 ?_
        refine lv_icmp_eq (tgt := 45) hx hb dX9_come_39 (by decide) (fun c4 => ?_) (fun c4 => ?_)
        · replace hf := hf.trans (if_pos c4)
          refine lv_aload_n hx hb dX9_come_45 rfl (lv_at hl 1 rfl) ?_
          refine va_get (D := D) (ci := 10) (v := .ref (a 33)) (C := RX9) (T := TX9) (N := 45) hx hb hts im_X9_come_X9 hown hE.1 hP 0 rfl rfl 33 (by decide) (hts (.fieldLink RX9 73 "RiverBridgesModel" "where" "[I") (by decide +kernel)) (fun _ h9 => h9) rfl dX9_come_46 ?_
          refine lv_iload_n hx hb dX9_come_49 rfl (lv_at hl 0 rfl) ?_
          refine lv_aload_n hx hb dX9_come_50 rfl (lv_at hl 1 rfl) ?_
          refine va_get (D := D) (ci := 10) (v := .ref (a 32)) (C := RX9) (T := TX9) (N := 45) hx hb hts im_X9_come_X9 hown hE.1 hP 0 rfl rfl 32 (by decide) (hts (.fieldLink RX9 70 "RiverBridgesModel" "ship" "[I") (by decide +kernel)) (fun _ h9 => h9) rfl dX9_come_51 ?_
          refine lv_iload_n hx hb dX9_come_54 rfl (lv_at hl 0 rfl) ?_
          refine lx_iald (v := u1.2.2 32 k) hx hb hE.1 hP 19 0 rfl rfl (by assumption) (by (rw [nI_clamp (by omega)]) <;> rfl) dX9_come_55 ?_
          refine lv_if_ne (tgt := 72) hx hb dX9_come_56 (by decide) (fun c9 => absurd (cz) c9) (fun _ => ?_)
          refine lv_aload_n hx hb dX9_come_59 rfl (lv_at hl 1 rfl) ?_
          refine lv_aload_n hx hb dX9_come_60 rfl (lv_at hl 1 rfl) ?_
          refine va_get (D := D) (ci := 10) (v := .ref (a 39)) (C := RX9) (T := TX9) (N := 45) hx hb hts im_X9_come_X9 hown hE.1 hP 0 rfl rfl 39 (by decide) (hts (.fieldLink RX9 91 "RiverBridgesModel" "isUp" "[Z") (by decide +kernel)) (fun _ h9 => h9) rfl dX9_come_61 ?_
          refine lv_iload_n hx hb dX9_come_64 rfl (lv_at hl 0 rfl) ?_
          refine lx_zald (v := u1.2.2 39 k) hx hb hE.1 hP 26 1 rfl rfl (by assumption) (by (rw [nI_clamp (by omega)]) <;> rfl) dX9_come_65 ?_
          refine sf_calli (va_runV (As := [.int (u1.2.2 39 k)]) (rest := [.int (nI k), .ref (a 33)]) ⟨hx, hb, hml, hown, hts⟩ (m_first l D cI cZ cB cO cJ a0 H.size a  u1 (u1.2.2 39 k) ) (cwV 1 hts gX9_come_X9_first rfl rfl rfl (by decide +kernel) ⟨Nat.le_of_ble_eq_true rfl, Nat.le_of_ble_eq_true rfl⟩) (preV_full hE hZ hA hS hP hD (va_recv hE.1 hP (ci := 10) (q0 := 0) rfl rfl)) rfl rfl hl.1 rfl (lv_room (Nat.le_of_ble_eq_true rfl)) dX9_come_66 ⟨Nat.le_of_ble_eq_true rfl, Nat.le_of_ble_eq_true rfl⟩) hP hD hS hA (fun r9 u9 H locs hw hP hD hS => ?_)
          subst hw
          have hP : va_P D vwCl (WM cI cZ cB a u1) H := hP
          have hD : va_D A (WM cI cZ cB a u1) := hD
          refine lv_goto (tgt := 78) hx hb dX9_come_69 (by decide) ?_
          refine lx_iast (g := upd (u1.2.2 33) k (f_first u1 (u1.2.2 39 k))) hx hb hE.1 hP hD hS 20 0 rfl rfl (by assumption) (by (rw [nI_clamp (by omega)]) <;> rfl) dX9_come_78 (fun H locs hP hD hS => ?_)
          have hP := va_P_eq (WM_a33 cI cZ cB a u1 k (f_first u1 (u1.2.2 39 k))) hP
          have hD := va_D_eq (WM_a33 cI cZ cB a u1 k (f_first u1 (u1.2.2 39 k))) hD
          refine lv_aload_n hx hb dX9_come_79 rfl (lv_at hl 1 rfl) ?_
          refine va_get (D := D) (ci := 10) (v := .ref (a 32)) (C := RX9) (T := TX9) (N := 45) hx hb hts im_X9_come_X9 hown hE.1 hP 0 rfl rfl 32 (by decide) (hts (.fieldLink RX9 70 "RiverBridgesModel" "ship" "[I") (by decide +kernel)) (fun _ h9 => h9) rfl dX9_come_80 ?_
          refine lv_iload_n hx hb dX9_come_83 rfl (lv_at hl 0 rfl) ?_
          refine lv_iconst (v := 1) hx hb dX9_come_84 (by decide) ?_
          refine lx_iast (g := upd (u1.2.2 32) k 1) hx hb hE.1 hP hD hS 19 0 rfl rfl (by assumption) (by (rw [nI_clamp (by omega)]) <;> rfl) dX9_come_85 (fun H locs hP hD hS => ?_)
          have hP := va_P_eq (WM_a32 cI cZ cB a (sa u1 33 k (f_first u1 (u1.2.2 39 k))) k 1) hP
          have hD := va_D_eq (WM_a32 cI cZ cB a (sa u1 33 k (f_first u1 (u1.2.2 39 k))) k 1) hD
          refine lv_aload_n hx hb dX9_come_86 rfl (lv_at hl 1 rfl) ?_
          refine va_get (D := D) (ci := 10) (v := .ref (a 35)) (C := RX9) (T := TX9) (N := 45) hx hb hts im_X9_come_X9 hown hE.1 hP 0 rfl rfl 35 (by decide) (hts (.fieldLink RX9 79 "RiverBridgesModel" "since" "[I") (by decide +kernel)) (fun _ h9 => h9) rfl dX9_come_87 ?_
          refine lv_iload_n hx hb dX9_come_90 rfl (lv_at hl 0 rfl) ?_
          refine lv_aload_n hx hb dX9_come_91 rfl (lv_at hl 1 rfl) ?_
          refine va_get (D := D) (ci := 10) (v := .int (u1.1 18)) (C := RX9) (T := TX9) (N := 45) hx hb hts im_X9_come_X9 hown hE.1 hP 0 rfl rfl 18 (by decide) (hts (.fieldLink RX9 122 "RiverBridgesModel" "minute" "I") (by decide +kernel)) (fun _ h9 => h9) rfl dX9_come_92 ?_
          refine lx_iast (g := upd (u1.2.2 35) k (u1.1 18)) hx hb hE.1 hP hD hS 22 0 rfl rfl (by assumption) (by (rw [nI_clamp (by omega)]) <;> rfl) dX9_come_95 (fun H locs hP hD hS => ?_)
          have hP := va_P_eq (WM_a35 cI cZ cB a (sa (sa u1 33 k (f_first u1 (u1.2.2 39 k))) 32 k 1) k (u1.1 18)) hP
          have hD := va_D_eq (WM_a35 cI cZ cB a (sa (sa u1 33 k (f_first u1 (u1.2.2 39 k))) 32 k 1) k (u1.1 18)) hD
          refine lv_iinc (v := nI (k + 1)) (lv' := [(1, .int (nI (k + 1))), (0, .ref (a 45))]) hx hb dX9_come_96 hl (k := 0) rfl (by first | exact nI_add _ _ | rfl) (by decide) rfl (fun ls hl => ?_)
          refine lv_goto (tgt := 2) hx hb dX9_come_99 (by decide) ?_
          exact ih_lp_come1 _ _ _ ⟨(sa (sa (sa u1 33 k (f_first u1 (u1.2.2 39 k))) 32 k 1) 35 k (u1.1 18)), (k + 1), (by omega), (by omega), (MI_sa (MI_32 (MI_33 hI1 (first_ix hI1 (hI.sb (by omega)) _)) (fun _ => (show ixN (upd (u1.2.2 33) k _ k) nB by rw [pk_us]; exact first_ix hI1 (hI.sb (by omega)) _))) (by decide)), hP, hD, hS, (lv_sub hl [0, 1] rfl), hf⟩
        · replace hf := hf.trans (if_neg c4)
          refine lv_goto (tgt := 96) hx hb dX9_come_42 (by decide) ?_
          refine lv_iinc (v := nI (k + 1)) (lv' := [(1, .int (nI (k + 1))), (0, .ref (a 45))]) hx hb dX9_come_96 hl (k := 0) rfl (by first | exact nI_add _ _ | rfl) (by decide) rfl (fun ls hl => ?_)
          refine lv_goto (tgt := 2) hx hb dX9_come_99 (by decide) ?_
          exact ih_lp_come1 _ _ _ ⟨u1, (k + 1), (by omega), (by omega), (hI1), hP, hD, hS, (lv_sub hl [0, 1] rfl), hf⟩
      · replace hf := hf.trans (if_neg cz)
        refine lv_aload_n hx hb dX9_come_19 rfl (lv_at hl 1 rfl) ?_
        refine va_get (D := D) (ci := 10) (v := .ref (a 32)) (C := RX9) (T := TX9) (N := 45) hx hb hts im_X9_come_X9 hown hE.1 hP 0 rfl rfl 32 (by decide) (hts (.fieldLink RX9 70 "RiverBridgesModel" "ship" "[I") (by decide +kernel)) (fun _ h9 => h9) rfl dX9_come_20 ?_
        refine lv_iload_n hx hb dX9_come_23 rfl (lv_at hl 0 rfl) ?_
        refine lx_iald (v := u1.2.2 32 k) hx hb hE.1 hP 19 0 rfl rfl (by assumption) (by (rw [nI_clamp (by omega)]) <;> rfl) dX9_come_24 ?_
        refine lv_iconst (v := 2) hx hb dX9_come_25 (by decide) ?_
        refine lv_icmp_ne (tgt := 96) hx hb dX9_come_26 (by decide) (fun cy => ?_) (fun cy => ?_)
        · replace hf := hf.trans (if_neg cy)
          refine lv_iinc (v := nI (k + 1)) (lv' := [(1, .int (nI (k + 1))), (0, .ref (a 45))]) hx hb dX9_come_96 hl (k := 0) rfl (by first | exact nI_add _ _ | rfl) (by decide) rfl (fun ls hl => ?_)
          refine lv_goto (tgt := 2) hx hb dX9_come_99 (by decide) ?_
          exact ih_lp_come1 _ _ _ ⟨u1, (k + 1), (by omega), (by omega), (hI1), hP, hD, hS, (lv_sub hl [0, 1] rfl), hf⟩
        · replace hf := hf.trans (if_pos cy)
          refine lv_aload_n hx hb dX9_come_29 rfl (lv_at hl 1 rfl) ?_
          refine va_get (D := D) (ci := 10) (v := .ref (a 34)) (C := RX9) (T := TX9) (N := 45) hx hb hts im_X9_come_X9 hown hE.1 hP 0 rfl rfl 34 (by decide) (hts (.fieldLink RX9 76 "RiverBridgesModel" "due" "[I") (by decide +kernel)) (fun _ h9 => h9) rfl dX9_come_30 ?_
          refine lv_iload_n hx hb dX9_come_33 rfl (lv_at hl 0 rfl) ?_
          refine lx_iald (v := u1.2.2 34 k) hx hb hE.1 hP 21 0 rfl rfl (by assumption) (by (rw [nI_clamp (by omega)]) <;> rfl) dX9_come_34 ?_
          refine lv_aload_n hx hb dX9_come_35 rfl (lv_at hl 1 rfl) ?_
          refine va_get (D := D) (ci := 10) (v := .int (u1.1 18)) (C := RX9) (T := TX9) (N := 45) hx hb hts im_X9_come_X9 hown hE.1 hP 0 rfl rfl 18 (by decide) (hts (.fieldLink RX9 122 "RiverBridgesModel" "minute" "I") (by decide +kernel)) (fun _ h9 => h9) rfl dX9_come_36 ?_
          refine lv_icmp_eq (tgt := 45) hx hb dX9_come_39 (by decide) (fun c5 => ?_) (fun c5 => ?_)
          · replace hf := hf.trans (if_pos c5)
            refine lv_aload_n hx hb dX9_come_45 rfl (lv_at hl 1 rfl) ?_
            refine va_get (D := D) (ci := 10) (v := .ref (a 33)) (C := RX9) (T := TX9) (N := 45) hx hb hts im_X9_come_X9 hown hE.1 hP 0 rfl rfl 33 (by decide) (hts (.fieldLink RX9 73 "RiverBridgesModel" "where" "[I") (by decide +kernel)) (fun _ h9 => h9) rfl dX9_come_46 ?_
            refine lv_iload_n hx hb dX9_come_49 rfl (lv_at hl 0 rfl) ?_
            refine lv_aload_n hx hb dX9_come_50 rfl (lv_at hl 1 rfl) ?_
            refine va_get (D := D) (ci := 10) (v := .ref (a 32)) (C := RX9) (T := TX9) (N := 45) hx hb hts im_X9_come_X9 hown hE.1 hP 0 rfl rfl 32 (by decide) (hts (.fieldLink RX9 70 "RiverBridgesModel" "ship" "[I") (by decide +kernel)) (fun _ h9 => h9) rfl dX9_come_51 ?_
            refine lv_iload_n hx hb dX9_come_54 rfl (lv_at hl 0 rfl) ?_
            refine lx_iald (v := u1.2.2 32 k) hx hb hE.1 hP 19 0 rfl rfl (by assumption) (by (rw [nI_clamp (by omega)]) <;> rfl) dX9_come_55 ?_
            refine lv_if_ne (tgt := 72) hx hb dX9_come_56 (by decide) (fun _ => ?_) (fun c9 => absurd c9 (cz))
            refine lv_aload_n hx hb dX9_come_72 rfl (lv_at hl 1 rfl) ?_
            refine va_get (D := D) (ci := 10) (v := .ref (a 33)) (C := RX9) (T := TX9) (N := 45) hx hb hts im_X9_come_X9 hown hE.1 hP 0 rfl rfl 33 (by decide) (hts (.fieldLink RX9 73 "RiverBridgesModel" "where" "[I") (by decide +kernel)) (fun _ h9 => h9) rfl dX9_come_73 ?_
            refine lv_iload_n hx hb dX9_come_76 rfl (lv_at hl 0 rfl) ?_
            refine lx_iald (v := u1.2.2 33 k) hx hb hE.1 hP 20 0 rfl rfl (by assumption) (by (rw [nI_clamp (by omega)]) <;> rfl) dX9_come_77 ?_
            refine lx_iast (g := upd (u1.2.2 33) k (u1.2.2 33 k)) hx hb hE.1 hP hD hS 20 0 rfl rfl (by assumption) (by (rw [nI_clamp (by omega)]) <;> rfl) dX9_come_78 (fun H locs hP hD hS => ?_)
            have hP := va_P_eq (WM_a33 cI cZ cB a u1 k (u1.2.2 33 k)) hP
            have hD := va_D_eq (WM_a33 cI cZ cB a u1 k (u1.2.2 33 k)) hD
            refine lv_aload_n hx hb dX9_come_79 rfl (lv_at hl 1 rfl) ?_
            refine va_get (D := D) (ci := 10) (v := .ref (a 32)) (C := RX9) (T := TX9) (N := 45) hx hb hts im_X9_come_X9 hown hE.1 hP 0 rfl rfl 32 (by decide) (hts (.fieldLink RX9 70 "RiverBridgesModel" "ship" "[I") (by decide +kernel)) (fun _ h9 => h9) rfl dX9_come_80 ?_
            refine lv_iload_n hx hb dX9_come_83 rfl (lv_at hl 0 rfl) ?_
            refine lv_iconst (v := 1) hx hb dX9_come_84 (by decide) ?_
            refine lx_iast (g := upd (u1.2.2 32) k 1) hx hb hE.1 hP hD hS 19 0 rfl rfl (by assumption) (by (rw [nI_clamp (by omega)]) <;> rfl) dX9_come_85 (fun H locs hP hD hS => ?_)
            have hP := va_P_eq (WM_a32 cI cZ cB a (sa u1 33 k (u1.2.2 33 k)) k 1) hP
            have hD := va_D_eq (WM_a32 cI cZ cB a (sa u1 33 k (u1.2.2 33 k)) k 1) hD
            refine lv_aload_n hx hb dX9_come_86 rfl (lv_at hl 1 rfl) ?_
            refine va_get (D := D) (ci := 10) (v := .ref (a 35)) (C := RX9) (T := TX9) (N := 45) hx hb hts im_X9_come_X9 hown hE.1 hP 0 rfl rfl 35 (by decide) (hts (.fieldLink RX9 79 "RiverBridgesModel" "since" "[I") (by decide +kernel)) (fun _ h9 => h9) rfl dX9_come_87 ?_
            refine lv_iload_n hx hb dX9_come_90 rfl (lv_at hl 0 rfl) ?_
            refine lv_aload_n hx hb dX9_come_91 rfl (lv_at hl 1 rfl) ?_
            refine va_get (D := D) (ci := 10) (v := .int (u1.1 18)) (C := RX9) (T := TX9) (N := 45) hx hb hts im_X9_come_X9 hown hE.1 hP 0 rfl rfl 18 (by decide) (hts (.fieldLink RX9 122 "RiverBridgesModel" "minute" "I") (by decide +kernel)) (fun _ h9 => h9) rfl dX9_come_92 ?_
            refine lx_iast (g := upd (u1.2.2 35) k (u1.1 18)) hx hb hE.1 hP hD hS 22 0 rfl rfl (by assumption) (by (rw [nI_clamp (by omega)]) <;> rfl) dX9_come_95 (fun H locs hP hD hS => ?_)
            have hP := va_P_eq (WM_a35 cI cZ cB a (sa (sa u1 33 k (u1.2.2 33 k)) 32 k 1) k (u1.1 18)) hP
            have hD := va_D_eq (WM_a35 cI cZ cB a (sa (sa u1 33 k (u1.2.2 33 k)) 32 k 1) k (u1.1 18)) hD
            refine lv_iinc (v := nI (k + 1)) (lv' := [(1, .int (nI (k + 1))), (0, .ref (a 45))]) hx hb dX9_come_96 hl (k := 0) rfl (by first | exact nI_add _ _ | rfl) (by decide) rfl (fun ls hl => ?_)
            refine lv_goto (tgt := 2) hx hb dX9_come_99 (by decide) ?_
            exact ih_lp_come1 _ _ _ ⟨(sa (sa (sa u1 33 k (u1.2.2 33 k)) 32 k 1) 35 k (u1.1 18)), (k + 1), (by omega), (by omega), (MI_sa (MI_32 (MI_33 hI1 (hI1.at k hk (Or.inr cy))) (fun _ => (show ixN (upd (u1.2.2 33) k _ k) nB by rw [pk_us]; exact hI1.at k hk (Or.inr cy)))) (by decide)), hP, hD, hS, (lv_sub hl [0, 1] rfl), hf⟩
          · replace hf := hf.trans (if_neg c5)
            refine lv_goto (tgt := 96) hx hb dX9_come_42 (by decide) ?_
            refine lv_iinc (v := nI (k + 1)) (lv' := [(1, .int (nI (k + 1))), (0, .ref (a 45))]) hx hb dX9_come_96 hl (k := 0) rfl (by first | exact nI_add _ _ | rfl) (by decide) rfl (fun ls hl => ?_)
            refine lv_goto (tgt := 2) hx hb dX9_come_99 (by decide) ?_
            exact ih_lp_come1 _ _ _ ⟨u1, (k + 1), (by omega), (by omega), (hI1), hP, hD, hS, (lv_sub hl [0, 1] rfl), hf⟩
