/-! the general form: a method's world is the whole world of its side; nothing is cut out -/
theorem map_range_some (ws : va_W) : (List.range ws.length).map (fun i => ws[i]?) = ws.map some := by
  apply List.ext_getElem
  · simp
  · intro i h1 h2
    simp at h1
    simp [h1]
theorem nd_range' (n : Nat) (is : List Nat) (h : is.Nodup) : va_nd is = true := by
  first
  | (unfold va_nd; simpa using h)
  | (induction is with
     | nil => rfl
     | cons x xs ih =>
       rw [List.nodup_cons] at h
       simp [va_nd, ih h.2, h.1])
theorem nd_range (n : Nat) : va_nd (List.range n) = true := nd_range' n _ List.nodup_range
theorem preS_full {D : va_G} {cI cZ cB cO cJ : ClassId} {a0 : Nat} {s : State} {H : Heap} {locs : List Loc} {ws : va_W} {A : Nat → Prop} {As : List Value} (hE : ev D cI cZ cB cO cJ s) (hZ : zz a0 A s s.heap) (hA : ∀ q, s.heap.size ≤ q → A q) (hS : va_S A s.heap H locs) (hP : va_P D vwCl ws H) (hD : va_D A ws) : PreS s H (Pcs D cI cZ cB cO cJ a0 As ws H.size) As :=
  preS_std (List.range ws.length) hE hZ hA hS hP hD (map_range_some ws) (nd_range _)
theorem preV_full {D : va_G} {cI cZ cB cO cJ : ClassId} {a0 : Nat} {s : State} {H : Heap} {locs : List Loc} {ws : va_W} {A : Nat → Prop} {C : String} {b : Nat} {As : List Value} (hE : ev D cI cZ cB cO cJ s) (hZ : zz a0 A s s.heap) (hA : ∀ q, s.heap.size ≤ q → A q) (hS : va_S A s.heap H locs) (hP : va_P D vwCl ws H) (hD : va_D A ws)
    (hr : ∃ cell : Cell, H[b]? = some cell ∧ cell.vm.isStatics = false ∧ s.vm.findClass C = some cell.cls) : PreV s H C b (Pcs D cI cZ cB cO cJ a0 (.ref b :: As) ws H.size) As :=
  preV_std (List.range ws.length) hE hZ hA hS hP hD (map_range_some ws) (nd_range _) (fun _ => hr)
section SF
variable {p : Program} {l : Launch} {e : Env} {R : Room} {s : State} {m : MethodId} {args : Array Value} {below : List Frame} {meth : Method} {c : Code} {H : Heap} {locs : List Loc} {cells slots : Nat} {Q : State → Prop}
variable {pc : Nat} {ls : Array Slot} {rest st0 : List Value} {D : va_G} {A : Nat → Prop} {ws : va_W} {H0 : Heap} {mc ms : Nat} {a : Array Value}
theorem sf_calli {S : Type} {post : Int32 → S → Prop} {WF : S → va_W} (hr : va_Run p l e R s m args below meth c H locs cells slots mc ms (F0 m pc ls st0) rest (va_Qi post (fun u t => va_P D vwCl (WF u) t.heap ∧ va_D (va_A ws H.size) (WF u)) (va_A ws H.size) a) (va_A ws H.size))
    (hP : va_P D vwCl ws H) (hD : va_D A ws) (hS : va_S A H0 H locs) (hA : ∀ q, H0.size ≤ q → A q)
    (kk : ∀ (r : Int32) (u : S) (H1 : Heap) (locs1 : List Loc), post r u → va_P D vwCl (WF u) H1 → va_D A (WF u) → va_S A H0 H1 locs1 → W p l e R s m args below meth c H1 locs1 (cells + mc) (slots + ms) Q (F0 m (pc + 3) ls (.int r :: rest))) : W p l e R s m args below meth c H locs cells slots Q (F0 m pc ls st0) :=
  ss_calli (wr := []) (List.range ws.length) [] hr hP hD hS hA (map_range_some ws) rfl rfl (fun i h => nomatch h) kk
theorem sf_callv {S : Type} {post : S → Prop} {WF : S → va_W} (hr : va_Run p l e R s m args below meth c H locs cells slots mc ms (F0 m pc ls st0) rest (va_Qv post (fun u t => va_P D vwCl (WF u) t.heap ∧ va_D (va_A ws H.size) (WF u)) (va_A ws H.size) a) (va_A ws H.size))
    (hP : va_P D vwCl ws H) (hD : va_D A ws) (hS : va_S A H0 H locs) (hA : ∀ q, H0.size ≤ q → A q)
    (kk : ∀ (u : S) (H1 : Heap) (locs1 : List Loc), post u → va_P D vwCl (WF u) H1 → va_D A (WF u) → va_S A H0 H1 locs1 → W p l e R s m args below meth c H1 locs1 (cells + mc) (slots + ms) Q (F0 m (pc + 3) ls rest)) : W p l e R s m args below meth c H locs cells slots Q (F0 m pc ls st0) :=
  ss_callv (wr := []) (List.range ws.length) [] hr hP hD hS hA (map_range_some ws) rfl rfl (fun i h => nomatch h) kk
/-- induction over the turns that are left -/
theorem ss_ind {st : List Value} {J : Nat → Heap → List Loc → Array Slot → Prop} (h0 : ∀ (H : Heap) (locs : List Loc) (ls : Array Slot), J 0 H locs ls → False)
    (hs : ∀ n : Nat, (∀ (H : Heap) (locs : List Loc) (ls : Array Slot), J n H locs ls → W p l e R s m args below meth c H locs cells slots Q (F0 m pc ls st)) → ∀ (H : Heap) (locs : List Loc) (ls : Array Slot), J (n + 1) H locs ls → W p l e R s m args below meth c H locs cells slots Q (F0 m pc ls st)) :
    ∀ (n : Nat) (H : Heap) (locs : List Loc) (ls : Array Slot), J n H locs ls → W p l e R s m args below meth c H locs cells slots Q (F0 m pc ls st) := by
  intro n
  induction n with
  | zero => intro H locs ls h; exact absurd (h0 H locs ls h) id
  | succ n ih => exact hs n ih
/-- a place where roads meet: what is behind it is walked once -/
theorem ss_join {pc2 : Nat} {st2 st1 : List Value} {ls1 : Array Slot} {J : Heap → List Loc → Array Slot → Prop} (hj : ∀ (H : Heap) (locs : List Loc) (ls : Array Slot), J H locs ls → W p l e R s m args below meth c H locs cells slots Q (F0 m pc2 ls st2))
    (k : (∀ (H : Heap) (locs : List Loc) (ls : Array Slot), J H locs ls → W p l e R s m args below meth c H locs cells slots Q (F0 m pc2 ls st2)) → W p l e R s m args below meth c H locs cells slots Q (F0 m pc ls1 st1)) : W p l e R s m args below meth c H locs cells slots Q (F0 m pc ls1 st1) := k hj
end SF
abbrev RS : Type := (Nat → Int32) × Int64 × (Nat → Nat → Int32)
def sg (u : RS) (k : Nat) (v : Int32) : RS := (upd u.1 k v, u.2)
def sw (u : RS) (w : Int64) : RS := (u.1, w, u.2.2)
def sa (u : RS) (k i : Nat) (v : Int32) : RS := (u.1, u.2.1, fun j => if j = k then upd (u.2.2 k) i v else u.2.2 j)
