/-! Rows of rows: an outer row of N references, N inner rows of K zeros behind it. -/
/-- the outer row when i inner rows are laid -/
def nw_go (h0 i : Nat) : Nat → Value := fun j => if j < i then .ref (h0 + 1 + j) else .null
theorem nw_go_s (h0 i : Nat) : updV (nw_go h0 i) i (.ref (h0 + 1 + i)) = nw_go h0 (i + 1) := by
  funext j
  unfold updV nw_go
  by_cases e : j = i
  · rw [if_pos e, if_pos (by omega), e]
  · rw [if_neg e]
    by_cases h : j < i
    · rw [if_pos h, if_pos (by omega)]
    · rw [if_neg h, if_neg (by omega)]
abbrev nw_gz (cI : ClassId) (K : Nat) : Cell := arrV cI K (fun _ => .int 0)
def nw_gr (U : State) (cA cI : ClassId) (N K : Nat) : Nat → State
  | 0 => U.pushCell (arrV cA N (nw_go U.heap.size 0))
  | i + 1 => ((nw_gr U cA cI N K i).pushCell (nw_gz cI K)).setCell U.heap.size (arrV cA N (nw_go U.heap.size (i + 1)))
/-- its size, its outer row, its tables, its slots, what was there, its inner rows -/
theorem nw_gr_ok (U : State) (cA cI : ClassId) (N K : Nat) : ∀ i, (nw_gr U cA cI N K i).heap.size = U.heap.size + 1 + i ∧ (nw_gr U cA cI N K i).heap[U.heap.size]? = some (arrV cA N (nw_go U.heap.size i)) ∧ (nw_gr U cA cI N K i).vm = U.vm ∧ (nw_gr U cA cI N K i).slotsUsed = U.slotsUsed + N + i * K ∧ (∀ x, x < U.heap.size → (nw_gr U cA cI N K i).heap[x]? = U.heap[x]?) ∧ ∀ j, j < i → (nw_gr U cA cI N K i).heap[U.heap.size + 1 + j]? = some (nw_gz cI K)
  | 0 => ⟨by simp [nw_gr], by simp [nw_gr], rfl, by simp [nw_gr, arrV_size], fun x hx => State.heap_pushCell_of_lt _ _ hx, fun j hj => absurd hj (Nat.not_lt_zero _)⟩
  | i + 1 => by
    obtain ⟨h1, h2, h3, h4, h5, h6⟩ := nw_gr_ok U cA cI N K i
    have hlt : U.heap.size < (nw_gr U cA cI N K i).heap.size := by omega
    have e2 : ((nw_gr U cA cI N K i).pushCell (nw_gz cI K)).heap[U.heap.size]? = some (arrV cA N (nw_go U.heap.size i)) := (State.heap_pushCell_of_lt _ _ hlt).trans h2
    refine ⟨?_, State.heap_setCell_self e2, ?_, ?_, fun x hx => ?_, fun j hj => ?_⟩
    · simp [nw_gr, State.setCell, h1]
      omega
    · simp [nw_gr, h3]
    · simp [nw_gr, h4, arrV_size, Nat.succ_mul]
      omega
    · show (((nw_gr U cA cI N K i).pushCell (nw_gz cI K)).setCell U.heap.size _).heap[x]? = _
      rw [State.heap_setCell_other (Nat.ne_of_gt hx), State.heap_pushCell_of_lt _ _ (Nat.lt_trans hx hlt)]
      exact h5 x hx
    · show (((nw_gr U cA cI N K i).pushCell (nw_gz cI K)).setCell U.heap.size _).heap[U.heap.size + 1 + j]? = _
      rw [State.heap_setCell_other (show U.heap.size ≠ U.heap.size + 1 + j by omega)]
      by_cases e : j < i
      · rw [State.heap_pushCell_of_lt _ _ (show U.heap.size + 1 + j < (nw_gr U cA cI N K i).heap.size by omega)]
        exact h6 j e
      · rw [show U.heap.size + 1 + j = (nw_gr U cA cI N K i).heap.size by omega]
        exact State.heap_pushCell_size _ _
theorem nw_gr_top (U : State) (f : JFrame) (cA cI : ClassId) (N K : Nat) : ∀ i, nw_gr (U.setTop f) cA cI N K i = (nw_gr U cA cI N K i).setTop f
  | 0 => rfl
  | i + 1 => by
    unfold nw_gr
    rw [nw_gr_top U f cA cI N K i]
    rfl
section
variable {p : Program} {l : Launch} {e : Env} {R : Room} {s : State} {m : MethodId} {args : Array Value} {below : List Frame} {meth : Method} {c : Code} {T : State} {locs : List Loc} {cells slots : Nat}
theorem nw_gr_stand (X : Stand p l e R s m args below meth c T locs cells slots) (cA cI : ClassId) (N K : Nat) : ∀ i, Stand p l e R s m args below meth c (nw_gr T cA cI N K i) locs (cells + 1 + i) (slots + N + i * K)
  | 0 => by
    have h := X.pushed (arrV cA N (nw_go T.heap.size 0))
    rw [arrV_size] at h
    rw [Nat.zero_mul]
    exact h
  | i + 1 => by
    obtain ⟨h1, h2, -⟩ := nw_gr_ok T cA cI N K i
    have Y := (nw_gr_stand X cA cI N K i).pushed (nw_gz cI K)
    have e2 : ((nw_gr T cA cI N K i).pushCell (nw_gz cI K)).heap[T.heap.size]? = some (arrV cA N (nw_go T.heap.size i)) := (State.heap_pushCell_of_lt _ _ (show T.heap.size < (nw_gr T cA cI N K i).heap.size by omega)).trans h2
    have Z := (Y.stored e2 i (.ref (T.heap.size + 1 + i))).dropFresh (fun x hx => by rw [List.mem_singleton.mp hx]; exact X.heapGrown)
    rw [arrV_store, nw_go_s, arrV_size] at Z
    rw [show cells + 1 + (i + 1) = cells + 1 + i + 1 by omega, show slots + N + (i + 1) * K = slots + N + i * K + K by rw [Nat.succ_mul]; omega]
    exact Z
end
section
variable {E : CtlPost} {e : Env} {d : Bool} {acts : List Action} {s : State}
/-- one row, all of one default value -/
theorem nw_mkrow {cA comp : ClassId} {k : Class} {ty : FieldType} {n : Nat} {v : Value} (hk : s.vm.classes[cA]? = some k) (hkind : k.kind = .array comp ty) (hl : ¬ n > e.platform.arrayLengthLimit) (hh : ¬ n * componentBytes ty > e.platform.maxHeapBytes) (hf : fits ty v = true) (hv : v.isDefault = true) (h1 : s.heap.size < e.platform.maxCells) (h2 : s.slotsUsed + n ≤ e.platform.maxSlots) {Q : Addr → Pre} (kk : Q s.heap.size d acts (s.pushCell (arrV cA n (fun _ => v)))) : wp (Jvm.newArray cA n v) Q E e d acts s := by
  have ha : allocActs (Array.replicate n v) s.heap.size acts = acts := by
    have : ((Array.replicate n v).all (·.isDefault)) = true := by
      rw [Array.all_replicate]
      split
      · rfl
      · exact hv
    unfold allocActs
    rw [if_pos this]
  rw [← arrV_new] at kk
  simp only [Jvm.newArray, Jvm.arrayFits, wp_bind', W.ask, W.ite, hl, if_false, wp_pure', W.theClass, hk, hkind, hh, W.alloc, W.stop, Option.some.injEq, exists_eq_left', Array.size_replicate, ha]
  rw [if_neg (by omega)]
  refine ⟨h1, h2, fun i w hw => ?_, kk⟩
  rw [Array.getElem?_replicate] at hw
  split at hw
  · cases hw
    simp [State.fitsSlot, State.slotType?, hk, hkind, hf]
  · cases hw
/-- the rows of a row of int rows -/
theorem nw_mkgrid {cA cI cc : ClassId} {kA kI : Class} {n k : Int32} (hA : s.vm.classes[cA]? = some kA) (hkA : kA.kind = .array cI (.array .int)) (hI : s.vm.classes[cI]? = some kI) (hkI : kI.kind = .array cc .int) (hn : ¬ n < 0) (hk : ¬ k < 0) (hl1 : ¬ n.toNatClampNeg > e.platform.arrayLengthLimit) (hh1 : ¬ n.toNatClampNeg * 4 > e.platform.maxHeapBytes) (hl2 : ¬ k.toNatClampNeg > e.platform.arrayLengthLimit) (hh2 : ¬ k.toNatClampNeg * 4 > e.platform.maxHeapBytes) (h1 : s.heap.size + 1 + n.toNatClampNeg ≤ e.platform.maxCells) (h2 : s.slotsUsed + n.toNatClampNeg + n.toNatClampNeg * k.toNatClampNeg ≤ e.platform.maxSlots) {Q : Addr → Pre} (kk : ∀ d' acts', Q s.heap.size d' acts' (nw_gr s cA cI n.toNatClampNeg k.toNatClampNeg n.toNatClampNeg)) : wp (multianewarray.make cA [n, k]) Q E e d acts s := by
  have hb : ([k].find? (· < 0)) = none := by simp [hk]
  rw [multianewarray.make]
  simp only [wp_bind', W.ite, hn, if_false, wp_pure', W.theClass, hA, hkA, Option.some.injEq, exists_eq_left']
  refine nw_mkrow hA hkA hl1 hh1 rfl rfl (by omega) (by have := Nat.zero_le (n.toNatClampNeg * k.toNatClampNeg); omega) ?_
  simp only [hb]
  rw [ite_self, wp_bind', Std.Legacy.Range.forIn_eq_forIn_range', show ([:n.toNatClampNeg] : Std.Legacy.Range).size = n.toNatClampNeg by simp [Std.Legacy.Range.size]]
  show wp (forIn (List.range' 0 n.toNatClampNeg 1) PUnit.unit _) _ E e d acts _
  refine wp_forIn_inv (fun rest u => ∃ i, i + rest.length = n.toNatClampNeg ∧ rest = List.range' i rest.length ∧ u = nw_gr s cA cI n.toNatClampNeg k.toNatClampNeg i) _ _ ⟨0, by simp, by simp, rfl⟩ ?_ ?_
  · rintro x rest u d1 acts1 Q1 ⟨i, hi, hr, rfl⟩ nx
    rw [List.length_cons] at hi hr
    rw [List.range'_succ, List.cons.injEq] at hr
    obtain ⟨rfl, hr⟩ := hr
    obtain ⟨g1, g2, g3, g4, -⟩ := nw_gr_ok s cA cI n.toNatClampNeg k.toNatClampNeg x
    have hm : x * k.toNatClampNeg + k.toNatClampNeg ≤ n.toNatClampNeg * k.toNatClampNeg := by
      have := Nat.mul_le_mul_right k.toNatClampNeg (show x + 1 ≤ n.toNatClampNeg by omega)
      rw [Nat.succ_mul] at this
      exact this
    simp only [wp_bind']
    rw [multianewarray.make]
    simp only [wp_bind', W.ite, hk, if_false, wp_pure', W.theClass, g3, hI, hkI, Option.some.injEq, exists_eq_left']
    refine nw_mkrow (by rw [g3]; exact hI) hkI hl2 hh2 rfl rfl (by omega) (by omega) ?_
    simp only [wp_bind', W.writeLoc, wp_pure']
    refine ⟨arrV cA n.toNatClampNeg (nw_go s.heap.size x), (State.heap_pushCell_of_lt _ _ (show s.heap.size < (nw_gr s cA cI n.toNatClampNeg k.toNatClampNeg x).heap.size by omega)).trans g2, by simp [arrV], by rw [arrV_size]; omega, ?_, nx _ _ _ ⟨x + 1, by omega, hr, ?_⟩⟩
    · simp [State.fitsSlot, State.slotType?, arrV, g3, hA, hkA, fits]
    · rw [g1, arrV_store, nw_go_s]
      rfl
  · rintro u d1 acts1 ⟨i, hi, -, rfl⟩
    have : i = n.toNatClampNeg := by simpa using hi
    subst this
    simp only [wp_pure']
    exact kk _ _
end
section
variable {p : Program} {l : Launch} {e : Env} {R : Room} {s : State} {m : MethodId} {args : Array Value} {below : List Frame} {meth : Method} {c : Code} {H : Heap} {locs : List Loc} {cells slots : Nat} {Q : State → Prop}
/-- the instruction: what the heap holds behind it -/
theorem nw_multi {cc : ByteArray} (hexec : p.tables.exec = Jvm.exec) (hb : c.code = cc) {own : String} {index : Nat} (hown : s.vm.findClass own = some m.cls) (hclink : (Cond.classLink own index "[[I").before args s = true) (hover : (Cond.arrayOver (.array .int)).before args s = true) (harr : (Cond.arrayClass .int).before args s = true)
    {g : JFrame} (hg : g.method = m) (hdg : decode cc g.pc = .ok (.multianewarray index 2, 4)) {n k : Int32} {rest : List Value} (hstack : g.stack = .int k :: .int n :: rest) (hn : ¬ n < 0) (hk : ¬ k < 0) (hb1 : n.toNatClampNeg * 4 ≤ 536870912) (hb2 : k.toNatClampNeg * 4 ≤ 536870912) (hcells : cells + (1 + n.toNatClampNeg) ≤ R.cells) (hslots : slots + (n.toNatClampNeg + n.toNatClampNeg * k.toNatClampNeg) ≤ R.slots)
    (kk : ∀ (cA cI : ClassId) (H1 : Heap), s.vm.findClass "[[I" = some cA → s.vm.findClass "[I" = some cI → H1.size = H.size + 1 + n.toNatClampNeg → (∀ x, x < H.size → H1[x]? = H[x]?) → H1[H.size]? = some (arrV cA n.toNatClampNeg (nw_go H.size n.toNatClampNeg)) → (∀ j, j < n.toNatClampNeg → H1[H.size + 1 + j]? = some (nw_gz cI k.toNatClampNeg)) →
      W p l e R s m args below meth c H1 locs (cells + 1 + n.toNatClampNeg) (slots + n.toNatClampNeg + n.toNatClampNeg * k.toNatClampNeg) Q { g with pc := g.pc + 4, stack := .ref H.size :: rest }) : W p l e R s m args below meth c H locs cells slots Q g := by
  intro T hT X
  subst hT; subst hb; subst hg
  have hpl : e.platform.magicAccessors = ({} : Platform).magicAccessors := by rw [X.admits.platform]
  obtain ⟨cI, cA, kA, hfI, -, hkA, hkindA, hfA⟩ := arrayOverA_spec hover
  obtain ⟨cI2, kI, cc, hfI2, hkI, hkindI⟩ := Cond.arrayClass_spec harr
  obtain rfl : cI2 = cI := Option.some.inj (hfI2.symm.trans hfI)
  obtain ⟨c0, hfc0, hcl⟩ := Cond.classLink_spec hown hclink e.platform hpl
  obtain rfl : cA = c0 := Option.some.inj (hfA.symm.trans hfc0)
  obtain ⟨hg₁, hwarm₁, -⟩ := State.classEntry (e := e) X.warmed hcl
  generalize T.vm.noted g.method.cls index (.cls cA) = vm₁ at hg₁ hwarm₁
  have hal : s.vm.Alike vm₁ := hwarm₁.alike
  obtain ⟨kA₁, hkA₁, heA⟩ := hal.2.2 _ _ hkA
  obtain ⟨kI₁, hkI₁, heI⟩ := hal.2.2 _ _ hkI
  obtain ⟨hr1, hr2⟩ := X.roomAbove hcells hslots
  have Y := nw_gr_stand (X.noted hwarm₁) cA cI2 n.toNatClampNeg k.toNatClampNeg n.toNatClampNeg
  obtain ⟨g1, g2, -, -, g5, g6⟩ := nw_gr_ok (T.setVm vm₁) cA cI2 n.toNatClampNeg k.toNatClampNeg n.toNatClampNeg
  obtain ⟨t, a1, b1⟩ := kk cA cI2 (nw_gr (T.setVm vm₁) cA cI2 n.toNatClampNeg k.toNatClampNeg n.toNatClampNeg).heap hfA hfI g1 g5 g2 g6 _ rfl Y
  refine ⟨t, ?_, b1⟩
  have lim := Launch.admits_arrayLengthLimit X.admits
  have mhb := Launch.admits_maxHeapBytes X.admits
  jvm_step X.here [hexec, hdg]
  simp only [multianewarray.sem, wp_bind', W.resolveClassAt_links (State.method?_setTop g X.here.top) hg₁]
  rw [W.popN, if_neg (by decide)]
  refine ⟨g, State.topJava?_setTop' (s := T.setVm vm₁) g X.here.top, [.int n, .int k], rest, rfl, hstack, ?_⟩
  simp only [List.mapM_cons, List.mapM_nil, wp_bind', wp_pure']
  refine nw_mkgrid (cc := cc) hkA₁ (by rw [heA]; exact hkindA) hkI₁ (by rw [heI]; exact hkindI) hn hk (by rw [lim]; omega) (by rw [mhb]; omega) (by rw [lim]; omega) (by rw [mhb]; omega) (by show T.heap.size + 1 + _ ≤ _; omega) (by show T.slotsUsed + _ + _ ≤ _; omega) (fun d' acts' => ?_)
  rw [show ((T.setTop g).setVm vm₁).setTop { g with stack := rest } = (T.setVm vm₁).setTop { g with stack := rest } by
    show ((T.setVm vm₁).setTop g).setTop _ = _
    rw [State.setTop_setTop], nw_gr_top]
  simp only [wp_bind', W.mark, W.pushRef, State.topJava?_setTop' _ Y.here.top, Option.some.injEq, exists_eq_left', State.setTop_setTop, State.heap_setTop]
  intro acts
  simp [jvm, Y.here.top]
  exact a1
end
section
variable {l : Launch} {g : nw_G} {d : Nat} {M : nw_Mt} {pc : Nat} {ls : List (Option Value)} {st : List Value} {sh : List nw_Sh} {I : nw_Me} {kc ks : Nat} {Post : Option Int32 → List nw_Sh → nw_Me → Prop}
def nw_zf (I : nw_Me) (k : Nat) : nw_Me := fun a => if a < k then I a else fun _ => 0
theorem ev_multi {i N K : Nat} {n k : Int32} (hl : Cond.classLink M.1.cls i "[[I" ∈ nw_gw) (hd : decode M.2.1 pc = .ok (.multianewarray i 2, 4)) (hn : ¬ n < 0) (hk : ¬ k < 0) (hN : n.toNatClampNeg = N) (hK : k.toNatClampNeg = K) (hb1 : N * 4 ≤ 536870912) (hb2 : K * 4 ≤ 536870912) {fs : List (Option (Option Nat))} (hfs : fs.length = N) (hfs2 : ∀ j, j < N → fs[j]? = some (some (some (sh.length + 1 + j))))
    (kk : nw_Ev l g d M (pc + 4) ls (.ref (nw_a g sh.length) :: st) (sh ++ [.inr (104, fs)] ++ List.replicate N (.inl (0, K))) (nw_zf I sh.length) kc ks Post) : nw_Ev l g d M pc ls (.int k :: .int n :: st) sh I (kc + (1 + N)) (ks + (N + N * K)) Post := by
  subst hN
  subst hK
  intro p e R s m args below meth c H locs cells slots Q la cx ws wh hs hlr h1 h2 hr
  refine nw_multi cx.1 cx.2.1 cx.2.2.2.1 (cx.2.2.2.2.1 _ hl) ws.2.2.2.2.2.2.2.2.2.2.2.2.2 (cx.2.2.2.2.1 (.arrayClass .int) (tb_in (i := 40) (by decide +kernel))) rfl hd rfl hn hk hb1 hb2 (by omega) (by omega) (fun cA cI H1 fA fI z1 o1 e1 e2 => ?_)
  have hc0 : cI = nw_ca g 0 := Option.some.inj (fI.symm.trans (ws.2.1.2 0 _ rfl).2)
  have hc4 : cA = nw_ca g 4 := Option.some.inj (fA.symm.trans (ws.2.1.2 4 _ rfl).2)
  subst hc0
  subst hc4
  have hsz : H.size = nw_b g + sh.length := wh.1
  have wh' : nw_Wh g (sh ++ [.inr (104, fs)] ++ List.replicate n.toNatClampNeg (.inl (0, k.toNatClampNeg))) (nw_zf I sh.length) H1 := by
    refine ⟨by rw [z1, hsz]; simp; omega, fun j c hj => ?_⟩
    by_cases hl1 : j < sh.length
    · rw [List.append_assoc, List.getElem?_append_left hl1] at hj
      rw [nw_e_ext g (I' := I) (show nw_zf I sh.length j = I j from if_pos hl1)]
      exact (wh.2 j c hj).kept (o1 _ (nw_at_lt wh hj))
    · by_cases hl2 : j = sh.length
      · subst hl2
        rw [List.append_assoc, List.getElem?_append_right (by omega)] at hj
        simp at hj
        subst hj
        simp only [nw_e, if_neg (show ¬ (104 : Nat) < 100 by omega), hfs]
        show H1[nw_a g sh.length]? = some (vp_cell (nw_ca g 4) (n.toNatClampNeg, _))
        rw [show nw_a g sh.length = H.size from hsz.symm, e1, vp_cell_q]
        congr 2
        funext q
        by_cases hq : q < n.toNatClampNeg
        · simp only [nw_rf, hfs2 q hq, nw_go, if_pos hq, va_rf, nw_a]
          rw [hsz, Nat.add_assoc, Nat.add_assoc, Nat.add_assoc]
        · have hz : fs[q]? = none := List.getElem?_eq_none (by omega)
          simp only [nw_rf, hz, nw_go, if_neg hq, va_rf]
      · rw [List.append_assoc, List.getElem?_append_right (by omega), List.getElem?_append_right (by simp; omega), List.getElem?_replicate] at hj
        split at hj
        · rename_i hlt
          cases hj
          have e0 : nw_zf I sh.length j = fun _ => 0 := if_neg hl1
          show H1[nw_a g j]? = some (vp_cell (nw_ca g 0) (k.toNatClampNeg, .inl (nw_zf I sh.length j)))
          rw [e0, vp_cell_i, ← e2 (j - sh.length - 1) (by simpa using hlt)]
          congr 1
          unfold nw_a
          omega
        · cases hj
  have key := kk p e R s m args below meth c H1 locs (cells + 1 + n.toNatClampNeg) (slots + n.toNatClampNeg + n.toNatClampNeg * k.toNatClampNeg) Q la cx ws wh' (nw_S_push hs (by omega) o1) hlr (by omega) (by omega) (by
    intro v sh' I' H' locs' q1 q2 q3
    rw [show cells + 1 + n.toNatClampNeg + kc = cells + (kc + (1 + n.toNatClampNeg)) by omega, show slots + n.toNatClampNeg + n.toNatClampNeg * k.toNatClampNeg + ks = slots + (ks + (n.toNatClampNeg + n.toNatClampNeg * k.toNatClampNeg)) by omega]
    exact hr v sh' I' H' locs' q1 q2 q3)
  rw [show H.size = nw_a g sh.length from hsz]
  exact key
end
