/-! A light judgement over the kit's W: the cells that the law makes lie at first + k, in the order of their making; their shapes are a list, all their ints one function of cell and place. -/
abbrev nw_Sh : Type := (Nat × Nat) ⊕ (Nat × List (Option (Option Nat)))
abbrev nw_Me : Type := Nat → Nat → Int32
/-- classes and slots; classes of arrays; first address; the script's, NEXT's, TOLD's address; the script's length; the script -/
abbrev nw_G : Type := va_G × (Nat → ClassId) × Nat × Nat × Nat × Nat × Nat × (Nat → Int32)
abbrev nw_D (g : nw_G) : va_G := g.1
abbrev nw_ca (g : nw_G) : Nat → ClassId := g.2.1
abbrev nw_b (g : nw_G) : Nat := g.2.2.1
abbrev nw_sc (g : nw_G) : Nat := g.2.2.2.1
abbrev nw_nx (g : nw_G) : Nat := g.2.2.2.2.1
abbrev nw_td (g : nw_G) : Nat := g.2.2.2.2.2.1
abbrev nw_L (g : nw_G) : Nat := g.2.2.2.2.2.2.1
abbrev nw_xs (g : nw_G) : Nat → Int32 := g.2.2.2.2.2.2.2
def nw_a (g : nw_G) (k : Nat) : Nat := nw_b g + k
def nw_A (g : nw_G) : Nat → Prop := fun q => nw_b g ≤ q
abbrev nw_ty (g : nw_G) : List (ClassId × FieldType) := [(nw_ca g 0, .int), (nw_ca g 1, .boolean), (nw_ca g 2, .object "NinthWave$Scene"), (nw_ca g 3, .object "NinthWave$Image"), (nw_ca g 4, .array .int)]
def nw_fv (g : nw_G) (I : nw_Me) (k i : Nat) (o : Option (Option Nat)) : Value := match o with
  | none => .int (I k i)
  | some none => .null
  | some (some j) => .ref (nw_a g j)
def nw_fs (g : nw_G) (I : nw_Me) (k : Nat) : Nat → List (Option (Option Nat)) → List Value
  | _, [] => []
  | i, o :: r => nw_fv g I k i o :: nw_fs g I k (i + 1) r
def nw_rf (g : nw_G) (fs : List (Option (Option Nat))) (i : Nat) : Option Nat := match fs[i]? with
  | some (some (some j)) => some (nw_a g j)
  | _ => none
def nw_e (g : nw_G) (I : nw_Me) (k : Nat) (c : nw_Sh) : va_E := match c with
  | .inl (t, n) => .inl (nw_ca g t, n, .inl (I k))
  | .inr (ci, fs) => if ci < 100 then .inr (ci, nw_fs g I k 0 fs) else .inl (nw_ca g (ci - 100), fs.length, .inr (.inr (.inr (.inr (nw_rf g fs)))))
def nw_NEXT : Nat → Int32 := fun k => ([-1, 0, 1, 1, 0, 4] : List Int32).getD k 0
def nw_TOLD : Nat → Int32 := fun k => ([10, 11, 12, 0, 13, 14, 20, 21, 24, 22, 23, 0] : List Int32).getD k 0
/-- the machine and the method -/
def nw_Cx (p : Program) (R : Room) (s : State) (m : MethodId) (args : Array Value) (meth : Method) (c : Code) (d : Nat) (M : nw_Mt) : Prop :=
  p.tables.exec = Jvm.exec ∧ c.code = M.2.1 ∧ c.maxLocals = M.2.2.1 ∧ s.vm.findClass M.1.cls = some m.cls ∧ (∀ w ∈ nw_gw, w.before args s = true) ∧ meth.name = M.1.name ∧ d + 1 ≤ R.frames ∧ 60 * (d + 1) ≤ R.locals
def nw_AA (U : State) : Prop := (Cond.arrayOver (.array .int)).before #[] U = true
theorem nw_AA_spec {args : Array Value} {s : State} (h : (Cond.arrayOver (.array .int)).before args s = true) :
    ∃ comp c k, s.vm.findClass (FieldType.array .int).toString = some comp ∧ (s.vm.classes.findIdx? fun x => match x.kind with | .array component _ => component == comp | _ => false) = some c ∧ s.vm.classes[c]? = some k ∧ k.kind = .array comp (.array .int) ∧
      s.vm.findClass ("[" ++ (FieldType.array .int).toString) = some c := by
  simp only [Cond.before, Cond.holds, Cond.value, beq_iff_eq] at h
  cases hc : s.vm.findClass (FieldType.array .int).toString with
  | none => simp [hc] at h
  | some comp =>
    simp only [hc, Option.bind_some, Option.bind_eq_some_iff, Option.map_eq_some_iff] at h
    obtain ⟨c, hi, k, hk, hb⟩ := h
    obtain ⟨hlt, hp, -⟩ := Array.findIdx?_eq_some_iff_getElem.mp hi
    have hkk : s.vm.classes[c] = k := (Array.getElem?_eq_some_iff.mp hk).2
    rw [hkk] at hp
    cases hkind : k.kind with
    | array component ty =>
      rw [hkind] at hb hp
      simp at hb hp
      exact ⟨comp, c, k, rfl, hi, hk, by rw [hkind, hp, hb.1], hb.2⟩
    | _ => rw [hkind] at hb; simp at hb
theorem nw_AA.moved {u U : State} (hvm : u.vm.Alike U.vm) (h : nw_AA u) : nw_AA U := by
  obtain ⟨comp, c, k, h1, h2, h3, h4, h5⟩ := nw_AA_spec h
  obtain ⟨k', hk', he⟩ := hvm.2.2 _ _ h3
  have hi : (U.vm.classes.findIdx? fun (x : Class) => match x.kind with | .array component _ => component == comp | _ => false) = some c := by
    have e1 := va_idx_bare u.vm comp
    have e2 := va_idx_bare U.vm comp
    have e3 : u.vm.bare = U.vm.bare := by first | exact hvm.bare_eq | exact hvm.bare_eq.symm
    rw [e3] at e1
    exact (e2.symm.trans e1).trans h2
  have hkind : k'.kind = .array comp (.array .int) := by rw [he]; exact h4
  have f1 : U.vm.findClass (FieldType.array .int).toString = some comp := by rw [hvm.findClass]; exact h1
  have f2 : U.vm.findClass ("[" ++ (FieldType.array .int).toString) = some c := by rw [hvm.findClass]; exact h5
  unfold nw_AA Cond.before Cond.holds
  simp only [Cond.value]
  rw [f1, Option.bind_some]
  refine (congrArg (fun o : Option Nat => (o.bind (fun c => (U.vm.classes[c]?).map fun (k : Class) => match k.kind with | .array _ ty => decide (ty = FieldType.array .int) && decide (U.vm.findClass ("[" ++ (FieldType.array .int).toString) = some c) | _ => false) == some true)) hi).trans ?_
  simp [hk', hkind, f2]
theorem nw_ne_nest : ∀ w ∈ nw_ne, ∃ a i x h, w = Cond.methodLinkNest a i x h := by
  intro w hw
  simp only [nw_ne, List.mem_cons, List.not_mem_nil, or_false] at hw
  rcases hw with rfl | rfl | rfl | rfl | rfl | rfl | rfl | rfl | rfl | rfl | rfl <;> exact ⟨_, _, _, _, rfl⟩
/-- what stands at the method's start -/
def nw_Ws (g : nw_G) (s : State) : Prop := nw_b g ≤ s.heap.size ∧ va_K (nw_D g) nw_cl (nw_ty g) s ∧ va_X (nw_sc g) (nw_L g) (nw_xs g) s s.heap ∧ va_X (nw_nx g) 6 nw_NEXT s s.heap ∧ va_X (nw_td g) 12 nw_TOLD s s.heap ∧
  va_Z RX4 "NEXT" "[I" (.ref (nw_nx g)) (nw_A g) s s.heap ∧ va_Z RX1 "TOLD" "[I" (.ref (nw_td g)) (nw_A g) s s.heap ∧ nw_sc g < nw_b g ∧ nw_nx g < nw_b g ∧ nw_td g < nw_b g ∧ (∀ w ∈ nw_ne, va_Nw w s) ∧ va_AO "NinthWave$Scene" s ∧ va_AO "NinthWave$Image" s ∧ nw_AA s
/-- the heap holds the cells -/
def nw_Wh (g : nw_G) (sh : List nw_Sh) (I : nw_Me) (H : Heap) : Prop := H.size = nw_b g + sh.length ∧ ∀ (k : Nat) (c : nw_Sh), sh[k]? = some c → va_at (nw_D g) nw_cl (nw_a g k, nw_e g I k c) H
def nw_Lr (ls : List (Option Value)) (la : Array Slot) (n : Nat) : Prop := la.size = n ∧ lv_wf la ∧ ∀ (i : Nat) (v : Value), ls[i]? = some (some v) → la[i]? = some (.val v)
def nw_Rt (p : Program) (l : Launch) (e : Env) (R : Room) (s : State) (m : MethodId) (args : Array Value) (below : List Frame) (meth : Method) (c : Code) (H : Heap) (locs : List Loc) (cells slots : Nat) (Q : State → Prop) (M : nw_Mt) (v : Option Int32) : Prop := match v with
  | some x => ∀ (pc : Nat) (la : Array Slot), decode M.2.1 pc = .ok (.ireturn, 1) → W p l e R s m args below meth c H locs cells slots Q (F0 m pc la [.int x])
  | none => ∀ (pc : Nat) (la : Array Slot), decode M.2.1 pc = .ok (.return_, 1) → W p l e R s m args below meth c H locs cells slots Q (F0 m pc la [])
/-- from this frame and these cells the method returns, with Post; it makes kc cells of ks slots -/
def nw_Ev (l : Launch) (g : nw_G) (d : Nat) (M : nw_Mt) (pc : Nat) (ls : List (Option Value)) (st : List Value) (sh : List nw_Sh) (I : nw_Me) (kc ks : Nat) (Post : Option Int32 → List nw_Sh → nw_Me → Prop) : Prop :=
  ∀ (p : Program) (e : Env) (R : Room) (s : State) (m : MethodId) (args : Array Value) (below : List Frame) (meth : Method) (c : Code) (H : Heap) (locs : List Loc) (cells slots : Nat) (Q : State → Prop) (la : Array Slot),
    nw_Cx p R s m args meth c d M → nw_Ws g s → nw_Wh g sh I H → va_S (nw_A g) s.heap H locs → nw_Lr ls la M.2.2.1 → cells + kc ≤ R.cells → slots + ks ≤ R.slots →
    (∀ (v : Option Int32) (sh' : List nw_Sh) (I' : nw_Me) (H' : Heap) (locs' : List Loc), Post v sh' I' → nw_Wh g sh' I' H' → va_S (nw_A g) s.heap H' locs' → nw_Rt p l e R s m args below meth c H' locs' (cells + kc) (slots + ks) Q M v) →
    W p l e R s m args below meth c H locs cells slots Q (F0 m pc la st)
/-- a method from its entry -/
def nw_lo (vs : List Value) : List (Option Value) := vs.flatMap fun v => if v.category = 2 then [some v, none] else [some v]
def nw_in (M : nw_Mt) (vs : List Value) : List (Option Value) := nw_lo vs ++ List.replicate (M.2.2.1 - (nw_lo vs).length) none
def nw_EM (l : Launch) (g : nw_G) (d : Nat) (M : nw_Mt) (av : List Value) (sh : List nw_Sh) (I : nw_Me) (kc ks : Nat) (Post : Option Int32 → List nw_Sh → nw_Me → Prop) : Prop := nw_Ev l g d M 0 (nw_in M av) [] sh I kc ks Post
-- locals
def nw_al : Nat → List (Option Value) → List (Nat × Value)
  | _, [] => []
  | i, some v :: r => (i, v) :: nw_al (i + 1) r
  | i, none :: r => nw_al (i + 1) r
theorem nw_al_mem : ∀ (ls : List (Option Value)) (i j : Nat) (v : Value), (j, v) ∈ nw_al i ls ↔ ∃ k, j = i + k ∧ ls[k]? = some (some v) := by
  intro ls
  induction ls with
  | nil => intro i j v; simp [nw_al]
  | cons a r ih =>
    intro i j v
    cases a with
    | none =>
      simp only [nw_al, ih]
      constructor
      · rintro ⟨k, rfl, h⟩
        exact ⟨k + 1, by omega, by simpa using h⟩
      · rintro ⟨k, rfl, h⟩
        cases k with
        | zero => simp at h
        | succ k => exact ⟨k, by omega, by simpa using h⟩
    | some w =>
      simp only [nw_al, List.mem_cons, ih, Prod.mk.injEq]
      constructor
      · rintro (⟨rfl, rfl⟩ | ⟨k, rfl, h⟩)
        · exact ⟨0, by omega, by simp⟩
        · exact ⟨k + 1, by omega, by simpa using h⟩
      · rintro ⟨k, rfl, h⟩
        cases k with
        | zero => left; simp at h; exact ⟨by omega, h.symm⟩
        | succ k => right; exact ⟨k, by omega, by simpa using h⟩
theorem nw_al_has {ls : List (Option Value)} {la : Array Slot} {n : Nat} (h : nw_Lr ls la n) : lv_has la n (nw_al 0 ls) := by
  refine ⟨h.1, h.2.1, fun q hq => ?_⟩
  obtain ⟨j, v⟩ := q
  obtain ⟨k, hk, hv⟩ := (nw_al_mem ls 0 j v).mp hq
  rw [show j = k by omega]
  exact h.2.2 k v hv
def nw_nl (ls : List (Option Value)) (i : Nat) : Bool := match i with
  | 0 => true
  | i + 1 => match ls[i]? with
    | some (some v) => !(v.category == 2)
    | _ => true
theorem nw_put1 {ls : List (Option Value)} {la : Array Slot} {n i : Nat} {v : Value} (hn : nw_nl ls i = true) (h : lv_has la n ((i, v) :: (nw_al 0 ls).filter (fun q => !(q.1 == i) && !(q.1 + 1 == i && q.2.category == 2)))) : nw_Lr (ls.set i (some v)) la n := by
  refine ⟨h.1, h.2.1, fun j w hw => ?_⟩
  rw [List.getElem?_set] at hw
  by_cases hj : i = j
  · subst hj
    rw [if_pos rfl] at hw
    split at hw
    · cases hw
      exact h.2.2 (i, v) List.mem_cons_self
    · cases hw
  · rw [if_neg hj] at hw
    refine h.2.2 (j, w) (List.mem_cons_of_mem _ (List.mem_filter.mpr ⟨(nw_al_mem ls 0 j w).mpr ⟨j, by omega, hw⟩, ?_⟩))
    have h1 : (j == i) = false := by simpa using fun e => hj e.symm
    simp only [h1, Bool.not_false, Bool.true_and]
    cases hb : (j + 1 == i && w.category == 2) with
    | false => rfl
    | true =>
      exfalso
      simp only [Bool.and_eq_true, beq_iff_eq] at hb
      obtain ⟨e, hc⟩ := hb
      subst e
      simp [nw_nl, hw, hc] at hn
theorem nw_put2 {ls : List (Option Value)} {la : Array Slot} {n i : Nat} {v : Value} (hn : nw_nl ls i = true) (h : lv_has la n ((i, v) :: (nw_al 0 ls).filter (fun q => !(q.1 == i) && (!(q.1 == i + 1) && !(q.1 + 1 == i && q.2.category == 2))))) : nw_Lr ((ls.set i (some v)).set (i + 1) none) la n := by
  refine ⟨h.1, h.2.1, fun j w hw => ?_⟩
  rw [List.getElem?_set] at hw
  by_cases hj1 : i + 1 = j
  · rw [if_pos hj1] at hw
    split at hw <;> cases hw
  · rw [if_neg hj1, List.getElem?_set] at hw
    by_cases hj : i = j
    · subst hj
      rw [if_pos rfl] at hw
      split at hw
      · cases hw
        exact h.2.2 (i, v) List.mem_cons_self
      · cases hw
    · rw [if_neg hj] at hw
      refine h.2.2 (j, w) (List.mem_cons_of_mem _ (List.mem_filter.mpr ⟨(nw_al_mem ls 0 j w).mpr ⟨j, by omega, hw⟩, ?_⟩))
      have h1 : (j == i) = false := by simpa using fun e => hj e.symm
      have h2 : (j == i + 1) = false := by simpa using fun e => hj1 e.symm
      simp only [h1, h2, Bool.not_false, Bool.true_and]
      cases hb : (j + 1 == i && w.category == 2) with
      | false => rfl
      | true =>
        exfalso
        simp only [Bool.and_eq_true, beq_iff_eq] at hb
        obtain ⟨e, hc⟩ := hb
        subst e
        simp [nw_nl, hw, hc] at hn
theorem nw_lo_args : ∀ (vs : List Value) (i j : Nat) (v : Value), (nw_lo vs)[j]? = some (some v) → (i + j, v) ∈ lv_args i vs := by
  intro vs
  induction vs with
  | nil => intro i j v h; simp [nw_lo] at h
  | cons a r ih =>
    intro i j v h
    have e : nw_lo (a :: r) = (if a.category = 2 then [some a, none] else [some a]) ++ nw_lo r := rfl
    rw [e] at h
    unfold lv_args
    by_cases hc : a.category = 2
    · rw [if_pos hc] at h ⊢
      match j, h with
      | 0, h => simp at h; subst h; exact List.mem_cons_self
      | 1, h => simp at h
      | j + 2, h =>
        have := ih (i + 2) j v (by simpa using h)
        rw [show i + (j + 2) = i + 2 + j by omega]
        exact List.mem_cons_of_mem _ this
    · rw [if_neg hc] at h ⊢
      match j, h with
      | 0, h => simp at h; subst h; exact List.mem_cons_self
      | j + 1, h =>
        have := ih (i + 1) j v (by simpa using h)
        rw [show i + (j + 1) = i + 1 + j by omega]
        exact List.mem_cons_of_mem _ this
theorem nw_lo_len (vs : List Value) : (nw_lo vs).length = (lg_sl vs).length := by
  induction vs with
  | nil => rfl
  | cons a r ih =>
    have e1 : nw_lo (a :: r) = (if a.category = 2 then [some a, none] else [some a]) ++ nw_lo r := rfl
    have e2 : lg_sl (a :: r) = (if a.category = 2 then [.val a, .second] else [.val a]) ++ lg_sl r := rfl
    rw [e1, e2, List.length_append, List.length_append, ih]
    by_cases hc : a.category = 2
    · simp [hc]
    · simp [hc]
theorem nw_entry (M : nw_Mt) (vs : List Value) (h : (nw_lo vs).length ≤ M.2.2.1) : nw_Lr (nw_in M vs) ((lg_sl vs ++ List.replicate (M.2.2.1 - (lg_sl vs).length) Slot.unset).toArray) M.2.2.1 := by
  have h1 := lv_entry vs (n := M.2.2.1) (by rw [← nw_lo_len]; exact h)
  refine ⟨h1.1, h1.2.1, fun j v hv => ?_⟩
  unfold nw_in at hv
  by_cases hj : j < (nw_lo vs).length
  · rw [List.getElem?_append_left hj] at hv
    have := h1.2.2 (0 + j, v) (nw_lo_args vs 0 j v hv)
    simpa using this
  · rw [List.getElem?_append_right (by omega), List.getElem?_replicate] at hv
    split at hv <;> cases hv
-- cells
theorem nw_fs_get (g : nw_G) (I : nw_Me) (k : Nat) : ∀ (fs : List (Option (Option Nat))) (i j : Nat), (nw_fs g I k i fs)[j]? = (fs[j]?).map (nw_fv g I k (i + j)) := by
  intro fs
  induction fs with
  | nil => intro i j; simp [nw_fs]
  | cons a r ih =>
    intro i j
    cases j with
    | zero => simp [nw_fs]
    | succ j =>
      simp only [nw_fs, List.getElem?_cons_succ, ih]
      rw [show i + 1 + j = i + (j + 1) by omega]
theorem nw_fs_len (g : nw_G) (I : nw_Me) (k : Nat) : ∀ (fs : List (Option (Option Nat))) (i : Nat), (nw_fs g I k i fs).length = fs.length := by
  intro fs
  induction fs with
  | nil => intro i; rfl
  | cons a r ih => intro i; simp [nw_fs, ih]
/-- the int at place i of cell k becomes v -/
def nw_up (I : nw_Me) (k i : Nat) (v : Int32) : nw_Me := fun a j => if a = k then (if j = i then v else I a j) else I a j
theorem nw_up_ne {I : nw_Me} {k i a : Nat} {v : Int32} (h : a ≠ k) : nw_up I k i v a = I a := by funext j; simp [nw_up, h]
theorem nw_up_self (I : nw_Me) (k i : Nat) (v : Int32) : nw_up I k i v k = upd (I k) i v := by funext j; simp [nw_up, upd]
theorem nw_fs_ext (g : nw_G) {I I' : nw_Me} {k : Nat} (h : I k = I' k) (fs : List (Option (Option Nat))) (i : Nat) : nw_fs g I k i fs = nw_fs g I' k i fs := by
  apply List.ext_getElem?
  intro j
  rw [nw_fs_get, nw_fs_get]
  cases fs[j]? with
  | none => rfl
  | some o => cases o with
    | none => simp [nw_fv, h]
    | some o => cases o <;> rfl
theorem nw_e_ext (g : nw_G) {I I' : nw_Me} {k : Nat} (h : I k = I' k) (c : nw_Sh) : nw_e g I k c = nw_e g I' k c := by
  cases c with
  | inl x => obtain ⟨t, n⟩ := x; simp [nw_e, h]
  | inr x => obtain ⟨ci, fs⟩ := x; simp [nw_e, nw_fs_ext g h]
theorem nw_fs_up (g : nw_G) (I : nw_Me) (k i : Nat) (v : Int32) {fs : List (Option (Option Nat))} (h : fs[i]? = some none) : nw_fs g (nw_up I k i v) k 0 fs = (nw_fs g I k 0 fs).set i (.int v) := by
  apply List.ext_getElem?
  intro j
  have hi : i < fs.length := (List.getElem?_eq_some_iff.mp h).1
  rw [nw_fs_get, List.getElem?_set, nw_fs_get, nw_fs_len]
  by_cases hj : i = j
  · subst hj
    rw [if_pos rfl, if_pos hi, h]
    simp [nw_fv, nw_up]
  · rw [if_neg hj]
    cases fs[j]? with
    | none => rfl
    | some o => cases o with
      | none => simp [nw_fv, nw_up, Ne.symm hj]
      | some o => cases o <;> rfl
theorem nw_at_lt {g : nw_G} {sh : List nw_Sh} {I : nw_Me} {H : Heap} (h : nw_Wh g sh I H) {k : Nat} {c : nw_Sh} (hk : sh[k]? = some c) : nw_a g k < H.size := (h.2 k c hk).lt
theorem nw_a_inj {g : nw_G} {j k : Nat} (h : nw_a g j = nw_a g k) : j = k := by unfold nw_a at h; omega
theorem nw_A_a (g : nw_G) (k : Nat) : nw_A g (nw_a g k) := by unfold nw_A nw_a; omega
/-- one cell is written -/
theorem nw_Wh.set {g : nw_G} {sh sh' : List nw_Sh} {I I' : nw_Me} {H H1 : Heap} (h : nw_Wh g sh I H) {k : Nat} {c' : nw_Sh} (hsh : sh' = sh.set k c') (hI : ∀ j, j ≠ k → I' j = I j) (z : H1.size = H.size) (oq : ∀ q, q ≠ nw_a g k → H1[q]? = H[q]?) (hk : k < sh.length) (hc : va_at (nw_D g) nw_cl (nw_a g k, nw_e g I' k c') H1) : nw_Wh g sh' I' H1 := by
  subst hsh
  refine ⟨by rw [z, h.1, List.length_set], fun j c hj => ?_⟩
  rw [List.getElem?_set] at hj
  by_cases e : k = j
  · subst e
    rw [if_pos rfl, if_pos hk] at hj
    cases hj
    exact hc
  · rw [if_neg e] at hj
    have h1 := h.2 j c hj
    rw [nw_e_ext g (hI j (fun q => e q.symm))]
    exact h1.kept (oq _ (fun q => e (nw_a_inj q).symm))
theorem nw_set_self {α : Type} {l : List α} {k : Nat} {c : α} (h : l[k]? = some c) : l = l.set k c := by
  apply List.ext_getElem?
  intro j
  rw [List.getElem?_set]
  by_cases e : k = j
  · subst e
    rw [if_pos rfl, if_pos (List.getElem?_eq_some_iff.mp h).1, h]
  · rw [if_neg e]
/-- one cell is made -/
theorem nw_Wh.push {g : nw_G} {sh : List nw_Sh} {I I' : nw_Me} {H H1 : Heap} (h : nw_Wh g sh I H) {c' : nw_Sh} (hI : ∀ j, j < sh.length → I' j = I j) (z : H1.size = H.size + 1) (oq : ∀ q, q < H.size → H1[q]? = H[q]?) (hc : va_at (nw_D g) nw_cl (nw_a g sh.length, nw_e g I' sh.length c') H1) : nw_Wh g (sh ++ [c']) I' H1 := by
  refine ⟨by rw [z, h.1, List.length_append, List.length_singleton]; omega, fun j c hj => ?_⟩
  by_cases hl : j < sh.length
  · rw [List.getElem?_append_left hl] at hj
    rw [nw_e_ext g (hI j hl)]
    exact (h.2 j c hj).kept (oq _ (nw_at_lt h hj))
  · rw [List.getElem?_append_right (by omega)] at hj
    have hz : j - sh.length < 1 := (List.getElem?_eq_some_iff.mp hj).1
    have : j = sh.length := by omega
    subst this
    simp at hj
    subst hj
    exact hc
theorem nw_S_push {A : Nat → Prop} {H0 H H1 : Heap} {locs : List Loc} (hS : va_S A H0 H locs) (z : H.size ≤ H1.size) (oq : ∀ q, q < H.size → H1[q]? = H[q]?) : va_S A H0 H1 locs := ⟨Nat.le_trans hS.1 z, fun x h1 h2 => (oq x (Nat.lt_of_lt_of_le h1 hS.1)).trans (hS.2.1 x h1 h2), hS.2.2⟩
/-- what stood at the caller's start stands at the callee's -/
theorem nw_X_kept {b L : Nat} {xs : Nat → Int32} {U : State} {H H1 : Heap} (h : va_X b L xs U H) (e : H1[b]? = H[b]?) : va_X b L xs U H1 := by
  obtain ⟨scr, h1, h2⟩ := h
  exact ⟨scr, by rw [e]; exact h1, h2⟩
theorem nw_X_lt {b L : Nat} {xs : Nat → Int32} {U : State} {H : Heap} (h : va_X b L xs U H) : b < H.size := by
  obtain ⟨scr, h1, -⟩ := h
  exact (Array.getElem?_eq_some_iff.mp h1).1
theorem nw_Ws.go {g : nw_G} {s U : State} {H : Heap} {locs : List Loc} (h : nw_Ws g s) (hS : va_S (nw_A g) s.heap H locs) (hU : U.heap = H) (hW : s.WarmedH U.vm) : nw_Ws g U := by
  have hvm := hW.alike
  obtain ⟨h1, h2, h3, h4, h5, h6, h7, h8, h9, h10, h11, h12, h13, h14⟩ := h
  have ho : ∀ a : Nat, a < s.heap.size → ¬ nw_A g a → U.heap[a]? = s.heap[a]? := fun a q1 q2 => by rw [hU]; exact hS.2.1 a q1 q2
  have hn : ∀ a, a < nw_b g → ¬ nw_A g a := fun a q h => by unfold nw_A at h; omega
  exact ⟨by rw [hU]; exact Nat.le_trans h1 hS.1, h2.moved hvm, nw_X_kept (h3.moved hvm) (ho _ (nw_X_lt h3) (hn _ h8)), nw_X_kept (h4.moved hvm) (ho _ (nw_X_lt h4) (hn _ h9)), nw_X_kept (h5.moved hvm) (ho _ (nw_X_lt h5) (hn _ h10)), (h6.moved hvm).kept ho, (h7.moved hvm).kept ho, h8, h9, h10, fun w hw => by
    obtain ⟨a, i, x, hh, rfl⟩ := nw_ne_nest w hw
    exact va_Nw.warmM hW (h11 _ hw), h12.moved hvm, h13.moved hvm, h14.moved hvm⟩
