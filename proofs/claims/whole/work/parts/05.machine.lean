
/-! THE SMALL MACHINE: a frame is (pc, locals, operand stack), a heap a list of cells, a reference a PLACE in that list. Its operations are predicate transformers;
each is sound for the machine (Snd), a method's table of operations gives its contract (Spc) by symbolic evaluation (ex). -/
abbrev vwCl : List vw_C := [(RX0, TX0, 2), (RX1, TX1, 4), (RX2, TX2, 6), (RX3, TX3, 14), (RX4, TX4, 2), (RX5, TX5, 13), (RX6, TX6, 32)]
/-- a method: name, bytes, locals, answer's type, depth of its calls, cells and slots that it makes -/
abbrev MI : Type := MethodName × ByteArray × Nat × Option FieldType × Nat × Nat × Nat
def mY (M : MI) : MethodName := M.1
def mC (M : MI) : ByteArray := M.2.1
def mN (M : MI) : Nat := M.2.2.1
def mR (M : MI) : Option FieldType := M.2.2.2.1
def mD (M : MI) : Nat := M.2.2.2.2.1
def mMc (M : MI) : Nat := M.2.2.2.2.2.1
def mMs (M : MI) : Nat := M.2.2.2.2.2.2
/-- a cell: an array (of char, or of int; its length; what it holds), or an object (its class's number; its fields) -/
abbrev SCell : Type := (Bool × Nat × (Nat → Int32)) ⊕ (Nat × List Value)
abbrev SH : Type := List SCell
abbrev LSt : Type := List (Option Value)
def tr (ad : List Nat) (v : Value) : Value := match v with
  | .ref k => .ref (ad.getD k 0)
  | .int x => .int x
  | .long x => .long x
  | .float x => .float x
  | .double x => .double x
  | .null => .null
  | .retAddr x => .retAddr x
theorem tr_cat (ad : List Nat) (v : Value) : (tr ad v).category = v.category := by cases v <;> rfl
def trC (ad : List Nat) (G : ClassId × ClassId) (c : SCell) : va_E := match c with
  | .inl (b, n, f) => .inl (if b = true then G.2 else G.1, n, .inl f)
  | .inr (ci, fs) => .inr (ci, fs.map (tr ad))
def mkW (ad : List Nat) (G : ClassId × ClassId) (h : SH) : va_W := List.zipWith (fun a c => (a, trC ad G c)) ad h
def trL (ad : List Nat) (ls : LSt) : LSt := ls.map (Option.map (tr ad))
def tysG (G : ClassId × ClassId) : List (ClassId × FieldType) := [(G.1, .int), (G.2, .char)]
def asc : Nat → LSt → List (Nat × Value)
  | _, [] => []
  | i, some v :: r => (i, v) :: asc (i + 1) r
  | i, none :: r => asc (i + 1) r
theorem asc_mem : ∀ (ls : LSt) (i : Nat) (q : Nat × Value), q ∈ asc i ls ↔ ∃ k, ls[k]? = some (some q.2) ∧ q.1 = i + k := by
  intro ls
  induction ls with
  | nil => intro i q; simp [asc]
  | cons o r ih =>
    intro i q
    cases o with
    | none =>
      simp only [asc]
      rw [ih]
      constructor
      · rintro ⟨k, h1, h2⟩
        exact ⟨k + 1, by simpa using h1, by omega⟩
      · rintro ⟨k, h1, h2⟩
        cases k with
        | zero => simp at h1
        | succ k => exact ⟨k, by simpa using h1, by omega⟩
    | some v =>
      simp only [asc, List.mem_cons]
      rw [ih]
      constructor
      · rintro (rfl | ⟨k, h1, h2⟩)
        · exact ⟨0, by simp, by simp⟩
        · exact ⟨k + 1, by simpa using h1, by omega⟩
      · rintro ⟨k, h1, h2⟩
        cases k with
        | zero =>
          left
          obtain ⟨a, b⟩ := q
          simp at h1 h2
          rw [h1, h2]
        | succ k => exact Or.inr ⟨k, by simpa using h1, by omega⟩
theorem trL_get {ad : List Nat} {ls : LSt} {i : Nat} {v : Value} (h : ls[i]? = some (some v)) : (trL ad ls)[i]? = some (some (tr ad v)) := by
  simp [trL, h]
theorem lv_of {lsA : Array Slot} {n : Nat} {ad : List Nat} {ls : LSt} (hL : lv_has lsA n (asc 0 (trL ad ls))) {i : Nat} {v : Value} (h : ls[i]? = some (some v)) : lsA[i]? = some (.val (tr ad v)) :=
  hL.2.2 (i, tr ad v) ((asc_mem _ _ _).mpr ⟨i, trL_get h, by simp⟩)
/-- the place below isn't a long -/
def noL (ls : LSt) (i : Nat) : Bool := match i with
  | 0 => true
  | j + 1 => match ls[j]? with
    | some (some v) => v.category == 1
    | _ => true
theorem lv_st1 {lsA : Array Slot} {n : Nat} {ad : List Nat} {ls : LSt} {i : Nat} {v : Value} (hn : noL ls i = true)
    (h : lv_has lsA n ((i, tr ad v) :: (asc 0 (trL ad ls)).filter (fun q => !(q.1 == i) && !(q.1 + 1 == i && q.2.category == 2)))) : lv_has lsA n (asc 0 (trL ad (ls.set i (some v)))) := by
  refine ⟨h.1, h.2.1, fun q hq => h.2.2 q ?_⟩
  obtain ⟨k, h1, h2⟩ := (asc_mem _ _ _).mp hq
  have h2 : q.1 = k := by omega
  simp only [trL, List.getElem?_map, List.getElem?_set] at h1
  by_cases hk : i = k
  · subst hk
    rw [if_pos rfl] at h1
    split at h1
    · simp at h1
      obtain ⟨a, b⟩ := q
      simp at h1 h2
      rw [h2, ← h1]
      exact List.mem_cons_self
    · simp at h1
  · rw [if_neg hk] at h1
    refine List.mem_cons_of_mem _ (List.mem_filter.mpr ⟨(asc_mem _ _ _).mpr ⟨k, by simpa [trL] using h1, by omega⟩, ?_⟩)
    have e1 : (q.1 == i) = false := by simp; omega
    rw [e1]
    by_cases hj : q.1 + 1 = i
    · have e2 : (q.2.category == 2) = false := by
        subst hj
        simp only [noL] at hn
        rw [h2] at hn
        cases hl : ls[k]? with
        | none => rw [hl] at h1; simp at h1
        | some o =>
          rw [hl] at h1 hn
          cases o with
          | none => simp at h1
          | some w =>
            simp at h1 hn
            rw [← h1, tr_cat, hn]
            rfl
      simp [e2]
    · have e3 : (q.1 + 1 == i) = false := by simp; exact hj
      simp [e3]
theorem lv_st2 {lsA : Array Slot} {n : Nat} {ad : List Nat} {ls : LSt} {i : Nat} {v : Value} (hn : noL ls i = true)
    (h : lv_has lsA n ((i, tr ad v) :: (asc 0 (trL ad ls)).filter (fun q => !(q.1 == i) && (!(q.1 == i + 1) && !(q.1 + 1 == i && q.2.category == 2))))) : lv_has lsA n (asc 0 (trL ad ((ls.set i (some v)).set (i + 1) none))) := by
  refine ⟨h.1, h.2.1, fun q hq => h.2.2 q ?_⟩
  obtain ⟨k, h1, h2⟩ := (asc_mem _ _ _).mp hq
  have h2 : q.1 = k := by omega
  simp only [trL, List.getElem?_map, List.getElem?_set, List.length_set] at h1
  by_cases hk1 : i + 1 = k
  · rw [if_pos hk1] at h1
    split at h1 <;> simp at h1
  · rw [if_neg hk1] at h1
    by_cases hk : i = k
    · subst hk
      rw [if_pos rfl] at h1
      split at h1
      · simp at h1
        obtain ⟨a, b⟩ := q
        simp at h1 h2
        rw [h2, ← h1]
        exact List.mem_cons_self
      · simp at h1
    · rw [if_neg hk] at h1
      refine List.mem_cons_of_mem _ (List.mem_filter.mpr ⟨(asc_mem _ _ _).mpr ⟨k, by simpa [trL] using h1, by omega⟩, ?_⟩)
      have e1 : (q.1 == i) = false := by simp; omega
      have e4 : (q.1 == i + 1) = false := by simp; omega
      rw [e1, e4]
      by_cases hj : q.1 + 1 = i
      · have e2 : (q.2.category == 2) = false := by
          subst hj
          simp only [noL] at hn
          rw [h2] at hn
          cases hl : ls[k]? with
          | none => rw [hl] at h1; simp at h1
          | some o =>
            rw [hl] at h1 hn
            cases o with
            | none => simp at h1
            | some w =>
              simp at h1 hn
              rw [← h1, tr_cat, hn]
              rfl
        simp [e2]
      · have e3 : (q.1 + 1 == i) = false := by simp; exact hj
        simp [e3]
/-- a method's first locals -/
def lsOf : List Value → Nat → LSt
  | [], n => List.replicate n none
  | v :: vs, n => if v.category = 2 then some v :: none :: lsOf vs (n - 2) else some v :: lsOf vs (n - 1)
theorem asc_none (i n : Nat) : asc i (List.replicate n none) = [] := by
  induction n generalizing i with
  | zero => rfl
  | succ n ih => simp [List.replicate_succ, asc, ih]
theorem lsOf_args (ad : List Nat) : ∀ (As : List Value) (n i : Nat), asc i (trL ad (lsOf As n)) = lv_args i (As.map (tr ad))
  | [], n, i => by simp [lsOf, trL, asc_none, lv_args]
  | v :: vs, n, i => by
    by_cases hv : v.category = 2
    · have := lsOf_args ad vs (n - 2) (i + 1 + 1)
      simp only [trL] at this
      simp [lsOf, hv, trL, asc, lv_args, tr_cat, this]
    · have := lsOf_args ad vs (n - 1) (i + 1)
      simp only [trL] at this
      simp [lsOf, hv, trL, asc, lv_args, tr_cat, this]
theorem mkW_get {ad : List Nat} {G : ClassId × ClassId} {h : SH} {k : Nat} {c : SCell} (hl : ad.length = h.length) (hk : h[k]? = some c) : (mkW ad G h)[k]? = some (ad.getD k 0, trC ad G c) := by
  have h1 : k < h.length := (List.getElem?_eq_some_iff.mp hk).1
  have h2 : k < ad.length := by omega
  simp only [mkW, List.getElem?_zipWith, hk, List.getElem?_eq_getElem h2]
  simp [List.getD_eq_getElem?_getD, List.getElem?_eq_getElem h2]
theorem mkW_set {ad : List Nat} {G : ClassId × ClassId} {h : SH} {k : Nat} {c c0 : SCell} (hl : ad.length = h.length) (hk : h[k]? = some c0) : (mkW ad G h).set k (ad.getD k 0, trC ad G c) = mkW ad G (h.set k c) := by
  have h1 : k < h.length := (List.getElem?_eq_some_iff.mp hk).1
  have h2 : k < ad.length := by omega
  apply List.ext_getElem?
  intro j
  simp only [mkW, List.getElem?_set, List.getElem?_zipWith, List.length_zipWith]
  by_cases hj : k = j
  · subst hj
    rw [if_pos rfl, if_pos rfl, if_pos (by omega), if_pos h1, List.getElem?_eq_getElem h2]
    simp [List.getD_eq_getElem?_getD, List.getElem?_eq_getElem h2]
  · rw [if_neg hj, if_neg hj]
theorem mkW_len {ad : List Nat} {G : ClassId × ClassId} {h : SH} (hl : ad.length = h.length) : (mkW ad G h).length = h.length := by simp [mkW, hl]
def okV (n : Nat) (v : Value) : Bool := match v with
  | .ref k => decide (k < n)
  | _ => true
def okC (n : Nat) (c : SCell) : Bool := match c with
  | .inl _ => true
  | .inr (_, fs) => fs.all (okV n)
def okH (n : Nat) (h : SH) : Bool := h.all (okC n)
def okL (n : Nat) (ls : LSt) : Bool := ls.all (fun o => match o with
  | some v => okV n v
  | none => true)
theorem tr_app {ad x : List Nat} {v : Value} (h : okV ad.length v = true) : tr (ad ++ x) v = tr ad v := by
  cases v with
  | ref k =>
    have hk : k < ad.length := by simpa [okV] using h
    simp [tr, List.getD_eq_getElem?_getD, List.getElem?_append_left hk]
  | _ => rfl
theorem trs_app {ad x : List Nat} : ∀ {fs : List Value}, fs.all (okV ad.length) = true → fs.map (tr (ad ++ x)) = fs.map (tr ad)
  | [], _ => rfl
  | v :: vs, h => by
    simp only [List.all_cons, Bool.and_eq_true] at h
    simp only [List.map_cons, tr_app h.1, trs_app h.2]
theorem trC_app {ad x : List Nat} {G : ClassId × ClassId} {c : SCell} (h : okC ad.length c = true) : trC (ad ++ x) G c = trC ad G c := by
  cases c with
  | inl a => rfl
  | inr o =>
    simp only [trC]
    rw [trs_app (by simpa [okC] using h)]
theorem trL_app {ad x : List Nat} : ∀ {ls : LSt}, okL ad.length ls = true → trL (ad ++ x) ls = trL ad ls
  | [], _ => rfl
  | none :: r, h => by
    have h' : okL ad.length r = true := by simpa [okL] using h
    have := trL_app (x := x) h'
    simp only [trL] at this
    simp [trL, this]
  | some v :: r, h => by
    have h' : okV ad.length v = true ∧ okL ad.length r = true := by simpa [okL] using h
    have := trL_app (x := x) h'.2
    simp only [trL] at this
    simp [trL, this, tr_app h'.1]
theorem mkW_app {ad x : List Nat} {G : ClassId × ClassId} {h h2 : SH} (hl : ad.length = h.length) (hok : okH ad.length h = true) : mkW (ad ++ x) G (h ++ h2) = mkW ad G h ++ List.zipWith (fun a c => (a, trC (ad ++ x) G c)) x h2 := by
  simp only [mkW]
  rw [List.zipWith_append hl]
  congr 1
  have key : ∀ (a : List Nat) (g : SH), g.all (okC ad.length) = true → List.zipWith (fun a c => (a, trC (ad ++ x) G c)) a g = List.zipWith (fun a c => (a, trC ad G c)) a g := by
    intro a
    induction a with
    | nil => intro g _; simp
    | cons b a ih =>
      intro g hg
      cases g with
      | nil => rfl
      | cons c g =>
        simp only [List.all_cons, Bool.and_eq_true] at hg
        simp only [List.zipWith_cons_cons, trC_app hg.1, ih g hg.2]
  exact key ad h hok

/-! ===== judgements ===== -/
theorem gi_of {ws : List Cond} (h : ∀ w ∈ ws, w ∈ TB) : GoodIn TB ws := fun w hw => ⟨h w hw, good_of_word (TB_good w (h w hw))⟩
def rmD (M : MI) : Room := { frames := mD M, cells := mMc M, slots := mMs M, locals := 40 * mD M }
/-! the one string constant of the class: its text, and that it stands as it stood at a method's entry -/
def START : String := "r24,6;t0,6,4;t1,5,2;t2,4,3;t3,8,5;t0,9,7;t2,3,1;l5,30,10;l3,50,5;l2,20,40;l0,60,60;n0,0;n0,2;n1,4;n1,0;n1,3;n2,1;n2,5;n3,4;n3,5;n3,3;"
def SB : List Int32 := [114, 50, 52, 44, 54, 59, 116, 48, 44, 54, 44, 52, 59, 116, 49, 44, 53, 44, 50, 59, 116, 50, 44, 52, 44, 51, 59, 116, 51, 44, 56, 44, 53, 59, 116, 48, 44, 57, 44, 55, 59, 116, 50, 44, 51, 44, 49, 59, 108, 53, 44, 51, 48, 44, 49, 48, 59, 108, 51, 44, 53, 48, 44, 53, 59, 108, 50, 44, 50, 48, 44, 52, 48, 59, 108, 48, 44, 54, 48, 44, 54, 48, 59, 110, 48, 44, 48, 59, 110, 48, 44, 50, 59, 110, 49, 44, 52, 59, 110, 49, 44, 48, 59, 110, 49, 44, 51, 59, 110, 50, 44, 49, 59, 110, 50, 44, 53, 59, 110, 51, 44, 52, 59, 110, 51, 44, 53, 59, 110, 51, 44, 51, 59]
def strB (y : MethodName) : Bool := y.cls == "BottomDrawer" && y.name == "<init>"
def StrF (A : Nat → Prop) (q v : Nat) (s : State) : Prop := vk_S 1 [133] [SB] (fun _ => q) (fun _ => v) A s s.heap ∧ va_Z "java/lang/String" "COMPACT_STRINGS" "Z" (.int 1) A s s.heap
def XS (M : MI) (A : Nat → Prop) (s : State) : Prop := strB (mY M) = true → ∃ q v : Nat, vk_R "BottomDrawer" 23 START q s ∧ StrF A q v s
def Cw (M : MI) (D : va_G) (G : ClassId × ClassId) (p : Program) (s : State) (m : MethodId) (args : Array Value) (meth : Method) (c : Code) (A : Nat → Prop) (ad0 ad : List Nat) (H : Heap) (locs : List Loc) (lsA : Array Slot) (ls : LSt) (h : SH) : Prop :=
  (p.tables.exec = Jvm.exec ∧ c.code = mC M ∧ meth.sig.returnType = mR M ∧ c.maxLocals = mN M ∧ s.vm.findClass (mY M).cls = some m.cls ∧ (∀ w ∈ TB, w.before args s = true) ∧ ((∀ w ∈ NTB, va_Nw w s) ∧ XS M A s) ∧ meth.locks = false ∧ meth.name = (mY M).name ∧ (∀ q, s.heap.size ≤ q → A q) ∧ va_K D vwCl (tysG G) s ∧ ∃ x, ad = ad0 ++ x ∧ (mMc M = 0 → x = [])) ∧
  (ad.length = h.length ∧ va_P D vwCl (mkW ad G h) H ∧ va_D A (mkW ad G h) ∧ va_S A s.heap H locs) ∧ lv_has lsA (mN M) (asc 0 (trL ad ls))
def QcD (M : MI) (D : va_G) (G : ClassId × ClassId) (A : Nat → Prop) (ad0 : List Nat) (Q : Option Value → SH → Prop) : Array Value → State → Outcome → State → Prop := fun _ st oc t =>
  (∃ (v : Option Value) (ad' : List Nat) (h' : SH), oc = .returned (v.map (tr (ad0 ++ ad'))) ∧ Q v h' ∧ (mMc M = 0 → ad' = []) ∧ (ad0 ++ ad').length = h'.length ∧ va_P D vwCl (mkW (ad0 ++ ad') G h') t.heap ∧ va_D A (mkW (ad0 ++ ad') G h')) ∧ va_F A st t
def PcD (D : va_G) (G : ClassId × ClassId) (ad : List Nat) (h : SH) (As : List Value) (sz : Nat) : Array Value → State → Prop :=
  va_Pc (As.map (tr ad)) (fun U => U.heap.size = sz ∧ va_P D vwCl (mkW ad G h) U.heap ∧ va_K D vwCl (tysG G) U ∧ va_D (fun _ => True) (mkW ad G h) ∧ ∀ w ∈ NTB, va_Nw w U)
/-- THE CONTRACT: from the heap h with the arguments As the method M returns, and what it answers and leaves is in Q -/
def Spc (M : MI) (As : List Value) (h : SH) (Q : Option Value → SH → Prop) : Prop :=
  ∀ (l : Launch) (D : va_G) (G : ClassId × ClassId) (ad : List Nat) (sz : Nat), ad.length = h.length →
    Met l (mY M) (Cond.code (mY M) (mC M) (mN M) (mR M) :: TB) (rmD M) (PcD D G ad h As sz) (QcD M D G (va_A (mkW ad G h) sz) ad Q) (mMc M) (mMs M) (va_A (mkW ad G h) sz)
/-- from this frame and heap the method comes to an end in Q -/
def SW (M : MI) (Q : Option Value → SH → Prop) (ce sl pc : Nat) (ls : LSt) (st : List Value) (h : SH) : Prop :=
  ∀ (l : Launch) (D : va_G) (G : ClassId × ClassId) (p : Program) (e : Env) (s : State) (m : MethodId) (args : Array Value) (below : List Frame) (meth : Method) (c : Code) (A : Nat → Prop) (ad0 ad : List Nat) (H : Heap) (locs : List Loc) (lsA : Array Slot),
    Cw M D G p s m args meth c A ad0 ad H locs lsA ls h → W p l e (rmD M) s m args below meth c H locs ce sl (MQ below (QcD M D G A ad0 Q) args s (mMc M) (mMs M) A) (F0 m pc lsA (st.map (tr ad)))
theorem QcD.mono {M : MI} {D : va_G} {G : ClassId × ClassId} {A : Nat → Prop} {ad0 : List Nat} {Q Q' : Option Value → SH → Prop} (h : ∀ v h', Q v h' → Q' v h') {a : Array Value} {st t : State} {oc : Outcome} (q : QcD M D G A ad0 Q a st oc t) : QcD M D G A ad0 Q' a st oc t := by
  obtain ⟨⟨v, ad', h', e, hq, r⟩, hf⟩ := q
  exact ⟨⟨v, ad', h', e, h _ _ hq, r⟩, hf⟩
theorem SW.mono {M : MI} {Q Q' : Option Value → SH → Prop} {ce sl pc : Nat} {ls : LSt} {st : List Value} {h : SH} (hs : SW M Q ce sl pc ls st h) (hq : ∀ v h', Q v h' → Q' v h') : SW M Q' ce sl pc ls st h := by
  intro l D G p e s m args below meth c A ad0 ad H locs lsA C T hT X
  obtain ⟨t, h1, o, h2, h3, h4, h5⟩ := hs l D G p e s m args below meth c A ad0 ad H locs lsA C T hT X
  exact ⟨t, h1, o, h2, h3, h4.mono hq, h5⟩
theorem Met.imp {l : Launch} {y : MethodName} {ws : List Cond} {rm : Room} {Pc : Array Value → State → Prop} {Qc Qc' : Array Value → State → Outcome → State → Prop} {mc ms : Nat} {free : Addr → Prop} (hM : Met l y ws rm Pc Qc mc ms free) (h : ∀ a st o t, Qc a st o t → Qc' a st o t) : Met l y ws rm Pc Qc' mc ms free := by
  intro p e h1 h2 h3 s m args below h4 h5 h6 h7
  obtain ⟨t, o, a1, a2, a3, a4, a5⟩ := hM p e h1 h2 h3 s m args below h4 h5 h6 h7
  exact ⟨t, o, a1, a2, a3, h _ _ _ _ a4, a5⟩
theorem Spc.mono {M : MI} {As : List Value} {h : SH} {Q Q' : Option Value → SH → Prop} (hs : Spc M As h Q) (hq : ∀ v h', Q v h' → Q' v h') : Spc M As h Q' :=
  fun l D G ad sz hl => (hs l D G ad sz hl).imp (fun _ _ _ _ q => q.mono hq)
/-- a contract that says just what comes -/
theorem Spc.to {M : MI} {As : List Value} {h h2 : SH} {v2 : Option Value} {Q : Option Value → SH → Prop} (hs : Spc M As h (fun v h' => v = v2 ∧ h' = h2)) (hq : Q v2 h2) : Spc M As h Q := hs.mono (fun _ _ q => by rw [q.1, q.2]; exact hq)
abbrev KT : Type := Nat → LSt → List Value → SH → Prop
abbrev XI : Type := (Option Value → SH → Prop) → KT → LSt → List Value → SH → Prop
/-- an operation is sound at a place of a method -/
def Snd (M : MI) (pc : Nat) (X : XI) : Prop := ∀ (Q : Option Value → SH → Prop) (ce sl : Nat) (k : KT), ce ≤ mMc M → sl ≤ mMs M → (∀ pc' ls' st' h', k pc' ls' st' h' → SW M Q ce sl pc' ls' st' h') → ∀ ls st h, X Q k ls st h → SW M Q ce sl pc ls st h
def lk : List (Nat × XI) → Nat → Option XI
  | [], _ => none
  | q :: t, pc => bif q.1 == pc then some q.2 else lk t pc
theorem lk_mem : ∀ {L : List (Nat × XI)} {pc : Nat} {X : XI}, lk L pc = some X → (pc, X) ∈ L
  | [], _, _, h => by cases h
  | q :: t, pc, X, h => by
    simp only [lk, cond_eq_ite] at h
    split at h
    · next hq =>
      have e : q.1 = pc := by simpa using hq
      obtain ⟨a, b⟩ := q
      simp at h e
      rw [e, h]
      exact List.mem_cons_self
    · exact List.mem_cons_of_mem _ (lk_mem h)
/-- symbolic evaluation: it stops at the places hd (but not at its start), and where the table has nothing -/
def ex (L : List (Nat × XI)) (hd : Nat → Bool) (S : KT) (Q : Option Value → SH → Prop) : Nat → KT
  | 0, pc, ls, st, h => S pc ls st h
  | n + 1, pc, ls, st, h => bif hd pc then S pc ls st h else match lk L pc with
    | none => S pc ls st h
    | some X => X Q (ex L hd S Q n) ls st h
def ex1 (L : List (Nat × XI)) (hd : Nat → Bool) (S : KT) (Q : Option Value → SH → Prop) (n : Nat) : KT := fun pc ls st h => match lk L pc with
    | none => S pc ls st h
    | some X => X Q (ex L hd S Q n) ls st h
abbrev Valid (M : MI) (L : List (Nat × XI)) : Prop := ∀ q ∈ L, Snd M q.1 q.2
theorem va_lid {M : MI} {pc : Nat} {X : XI} {L : List (Nat × XI)} (h1 : Snd M pc X) (h2 : Valid M L) : Valid M ((pc, X) :: L) := List.forall_mem_cons.mpr ⟨h1, h2⟩
theorem va_lid0 {M : MI} : Valid M [] := fun _ h => absurd h List.not_mem_nil
theorem ex_sound {M : MI} {L : List (Nat × XI)} (V : Valid M L) {hd : Nat → Bool} {Q : Option Value → SH → Prop} {ce sl : Nat} (h1 : ce ≤ mMc M) (h2 : sl ≤ mMs M) : ∀ (n : Nat) pc ls st h, ex L hd (SW M Q ce sl) Q n pc ls st h → SW M Q ce sl pc ls st h := by
  intro n
  induction n with
  | zero => intro pc ls st h hx; exact hx
  | succ n ih =>
    intro pc ls st h hx
    simp only [ex, cond_eq_ite] at hx
    split at hx
    · exact hx
    · cases hl : lk L pc with
      | none => rw [hl] at hx; exact hx
      | some X =>
        rw [hl] at hx
        exact V _ (lk_mem hl) Q ce sl _ h1 h2 ih ls st h hx
theorem SW.go {M : MI} {L : List (Nat × XI)} (V : Valid M L) {Q : Option Value → SH → Prop} {ce sl : Nat} (h1 : ce ≤ mMc M) (h2 : sl ≤ mMs M) (hd : Nat → Bool) (n : Nat) {pc : Nat} {ls : LSt} {st : List Value} {h : SH} (hx : ex1 L hd (SW M Q ce sl) Q n pc ls st h) : SW M Q ce sl pc ls st h := by
  simp only [ex1] at hx
  cases hl : lk L pc with
  | none => rw [hl] at hx; exact hx
  | some X =>
    rw [hl] at hx
    exact V _ (lk_mem hl) Q ce sl _ h1 h2 (ex_sound V h1 h2 n) ls st h hx
theorem NTB_warm {s U : State} (hW : s.WarmedH U.vm) (h : ∀ w ∈ NTB, va_Nw w s) : ∀ w ∈ NTB, va_Nw w U := by
  intro w hw
  obtain ⟨a, i, x, n, rfl⟩ := NTB_form w hw
  exact va_Nw.warmM hW (h _ hw)
theorem NTB_same {s U : State} (hv : s.vm = U.vm) (h : ∀ w ∈ NTB, va_Nw w s) : ∀ w ∈ NTB, va_Nw w U := by
  intro w hw
  obtain ⟨a, i, x, n, rfl⟩ := NTB_form w hw
  exact va_Nw.same rfl hv (h _ hw)
set_option maxHeartbeats 4000000 in
theorem Spc.ofSW {M : MI} {As : List Value} {h : SH} {Q : Option Value → SH → Prop} (hy : (plainName (mY M).cls && !strB (mY M)) = true) (hA : ∀ ad, (lg_sl (As.map (tr ad))).length ≤ mN M) (hs : SW M Q 0 0 0 (lsOf As (mN M)) [] h) : Spc M As h Q := by
  simp only [Bool.and_eq_true, Bool.not_eq_true'] at hy
  intro l D G ad sz hl
  refine Met.ofW (cc := mC M) (maxL := mN M) (ret := mR M) hy.1 rfl ?_
  intro p e s m args below meth c s₁ B hml hv
  obtain ⟨rfl, hsz, hP, hK, hD0, hN⟩ := hv
  have hx := B.exec
  have hb := B.bytes
  have hr := B.returns
  have hts := atoms_spec (ws := Cond.code (mY M) (mC M) (mN M) (mR M) :: TB) B.pre
  have hown : s.vm.findClass (mY M).cls = some m.cls := findClass_of_methodNamed B.named
  have hlocks := B.notSynchronized
  have hin : meth.name = (mY M).name := (name_of_methodNamed B.named B.method).1
  subst hsz
  have hD := hD0.self (sz := s.heap.size)
  have hlv := lv_entry (As.map (tr ad)) (n := mN M) (hA ad)
  rw [lg_entry_eq]
  exact hs l D G p e s m (As.map (tr ad)).toArray below meth c (va_A (mkW ad G h) s.heap.size) ad ad s.heap [] _ ⟨⟨hx, hb, hr, hml, hown, fun w hw => hts w (List.mem_cons_of_mem _ hw), ⟨hN, fun z => by rw [hy.2] at z; cases z⟩, hlocks, hin, fun q hq => Or.inr hq, hK, [], (List.append_nil _).symm, fun _ => rfl⟩, ⟨hl, hP, hD, va_S.rf⟩, by rw [lsOf_args]; exact hlv⟩
/-- a contract whose start has the string constant too -/
def PcS (D : va_G) (G : ClassId × ClassId) (ad : List Nat) (h : SH) (As : List Value) (sz : Nat) : Array Value → State → Prop :=
  va_Pc (As.map (tr ad)) (fun U => U.heap.size = sz ∧ va_P D vwCl (mkW ad G h) U.heap ∧ va_K D vwCl (tysG G) U ∧ va_D (fun _ => True) (mkW ad G h) ∧ (∀ w ∈ NTB, va_Nw w U) ∧ ∃ q v : Nat, vk_R "BottomDrawer" 23 START q U ∧ StrF (va_A (mkW ad G h) sz) q v U)
def SpcS (M : MI) (As : List Value) (h : SH) (Q : Option Value → SH → Prop) : Prop :=
  ∀ (l : Launch) (D : va_G) (G : ClassId × ClassId) (ad : List Nat) (sz : Nat), ad.length = h.length →
    Met l (mY M) (Cond.code (mY M) (mC M) (mN M) (mR M) :: TB) (rmD M) (PcS D G ad h As sz) (QcD M D G (va_A (mkW ad G h) sz) ad Q) (mMc M) (mMs M) (va_A (mkW ad G h) sz)
theorem SpcS.ofSW {M : MI} {As : List Value} {h : SH} {Q : Option Value → SH → Prop} (hy : plainName (mY M).cls = true) (hA : ∀ ad, (lg_sl (As.map (tr ad))).length ≤ mN M) (hs : SW M Q 0 0 0 (lsOf As (mN M)) [] h) : SpcS M As h Q := by
  intro l D G ad sz hl
  refine Met.ofW (cc := mC M) (maxL := mN M) (ret := mR M) hy rfl ?_
  intro p e s m args below meth c s₁ B hml hv
  obtain ⟨rfl, hsz, hP, hK, hD0, hN, hX⟩ := hv
  have hx := B.exec
  have hb := B.bytes
  have hr := B.returns
  have hts := atoms_spec (ws := Cond.code (mY M) (mC M) (mN M) (mR M) :: TB) B.pre
  have hown : s.vm.findClass (mY M).cls = some m.cls := findClass_of_methodNamed B.named
  have hlocks := B.notSynchronized
  have hin : meth.name = (mY M).name := (name_of_methodNamed B.named B.method).1
  subst hsz
  have hD := hD0.self (sz := s.heap.size)
  have hlv := lv_entry (As.map (tr ad)) (n := mN M) (hA ad)
  rw [lg_entry_eq]
  exact hs l D G p e s m (As.map (tr ad)).toArray below meth c (va_A (mkW ad G h) s.heap.size) ad ad s.heap [] _ ⟨⟨hx, hb, hr, hml, hown, fun w hw => hts w (List.mem_cons_of_mem _ hw), ⟨hN, fun _ => hX⟩, hlocks, hin, fun q hq => Or.inr hq, hK, [], (List.append_nil _).symm, fun _ => rfl⟩, ⟨hl, hP, hD, va_S.rf⟩, by rw [lsOf_args]; exact hlv⟩
theorem Spc.go {M : MI} {L : List (Nat × XI)} (V : Valid M L) {As : List Value} {h : SH} {Q : Option Value → SH → Prop} (hy : (plainName (mY M).cls && !strB (mY M)) = true) (hA : ∀ ad, (lg_sl (As.map (tr ad))).length ≤ mN M) (hd : Nat → Bool) (n : Nat) (hx : ex1 L hd (SW M Q 0 0) Q n 0 (lsOf As (mN M)) [] h) : Spc M As h Q :=
  Spc.ofSW hy hA (SW.go V (Nat.zero_le _) (Nat.zero_le _) hd n hx)

/-! ===== operations, and that each is sound ===== -/
def xK (nx : Nat) (v : Int32) : XI := fun Q k ls st h => k nx ls (.int v :: st) h
theorem snd_iconst {M : MI} {pc : Nat} {n : Int} {v : Int32} (hd : decode (mC M) pc = .ok (.iconst n, 1)) (hv : Int32.ofInt n = v) : Snd M pc (xK (pc + 1) v) := by
  intro Q ce sl k hce hsl hk ls st h hX
  match st, hX with
  | st, hX =>
    intro l D G p e s m args below meth c A ad0 ad H locs lsA C
    exact lv_iconst C.1.1 C.1.2.1 hd hv (hk _ _ _ _ hX l D G p e s m args below meth c A ad0 ad H locs lsA C)
theorem snd_bipush {M : MI} {pc : Nat} {n : Int} {v : Int32} (hd : decode (mC M) pc = .ok (.bipush n, 2)) (hv : (Int8.ofInt n).toInt32 = v) : Snd M pc (xK (pc + 2) v) := by
  intro Q ce sl k hce hsl hk ls st h hX
  match st, hX with
  | st, hX =>
    intro l D G p e s m args below meth c A ad0 ad H locs lsA C
    exact lv_bipush C.1.1 C.1.2.1 hd hv (hk _ _ _ _ hX l D G p e s m args below meth c A ad0 ad H locs lsA C)
theorem snd_sipush {M : MI} {pc : Nat} {n : Int} {v : Int32} (hd : decode (mC M) pc = .ok (.sipush n, 3)) (hv : (Int16.ofInt n).toInt32 = v) : Snd M pc (xK (pc + 3) v) := by
  intro Q ce sl k hce hsl hk ls st h hX
  match st, hX with
  | st, hX =>
    intro l D G p e s m args below meth c A ad0 ad H locs lsA C
    exact lv_sipush C.1.1 C.1.2.1 hd hv (hk _ _ _ _ hX l D G p e s m args below meth c A ad0 ad H locs lsA C)
theorem snd_ldc {M : MI} {pc : Nat} {n : Nat} {v : Int32} (hd : decode (mC M) pc = .ok (.ldc n, 2)) (hw : Cond.constant (mY M).cls n v ∈ TB) : Snd M pc (xK (pc + 2) v) := by
  intro Q ce sl k hce hsl hk ls st h hX
  match st, hX with
  | st, hX =>
    intro l D G p e s m args below meth c A ad0 ad H locs lsA C
    exact lv_ldc C.1.1 C.1.2.1 C.1.2.2.2.2.1 (C.1.2.2.2.2.2.1 _ hw) hd (hk _ _ _ _ hX l D G p e s m args below meth c A ad0 ad H locs lsA C)
theorem snd_ldcw {M : MI} {pc : Nat} {n : Nat} {v : Int32} (hd : decode (mC M) pc = .ok (.ldc_w n, 3)) (hw : Cond.constant (mY M).cls n v ∈ TB) : Snd M pc (xK (pc + 3) v) := by
  intro Q ce sl k hce hsl hk ls st h hX
  match st, hX with
  | st, hX =>
    intro l D G p e s m args below meth c A ad0 ad H locs lsA C
    exact lv_ldcw C.1.1 C.1.2.1 C.1.2.2.2.2.1 (C.1.2.2.2.2.2.1 _ hw) hd (hk _ _ _ _ hX l D G p e s m args below meth c A ad0 ad H locs lsA C)
def xKL (nx : Nat) (v : Int64) : XI := fun Q k ls st h => k nx ls (.long v :: st) h
theorem snd_lconst {M : MI} {pc : Nat} {n : Fin 2} {v : Int64} (hd : decode (mC M) pc = .ok (.lconst n, 1)) (hv : Int64.ofNat (n : Nat) = v) : Snd M pc (xKL (pc + 1) v) := by
  intro Q ce sl k hce hsl hk ls st h hX
  match st, hX with
  | st, hX =>
    intro l D G p e s m args below meth c A ad0 ad H locs lsA C
    exact lv_lconst C.1.1 C.1.2.1 hd hv (hk _ _ _ _ hX l D G p e s m args below meth c A ad0 ad H locs lsA C)
theorem snd_ldc2 {M : MI} {pc : Nat} {n : Nat} {v : Int64} (hd : decode (mC M) pc = .ok (.ldc2_w n, 3)) (hw : Cond.constantLong (mY M).cls n v ∈ TB) : Snd M pc (xKL (pc + 3) v) := by
  intro Q ce sl k hce hsl hk ls st h hX
  match st, hX with
  | st, hX =>
    intro l D G p e s m args below meth c A ad0 ad H locs lsA C
    exact W.ldc2 C.1.1 C.1.2.1 C.1.2.2.2.2.1 (C.1.2.2.2.2.2.1 _ hw) rfl hd (hk _ _ _ _ hX l D G p e s m args below meth c A ad0 ad H locs lsA C)
def xLdI (nx i : Nat) : XI := fun Q k ls st h => match ls[i]? with
  | some (some (.int x)) => k nx ls (.int x :: st) h
  | _ => False
theorem snd_iload_n {M : MI} {pc : Nat} {n : Fin 4} (hd : decode (mC M) pc = .ok (.iload_n n, 1)) : Snd M pc (xLdI (pc + 1) (n : Nat)) := by
  intro Q ce sl k hce hsl hk ls st h hX
  have hX : (match ls[(n : Nat)]? with | some (some (.int x)) => k (pc + 1) ls (.int x :: st) h | _ => False) := hX
  split at hX
  · next x hl =>
    intro l D G p e s m args below meth c A ad0 ad H locs lsA C
    exact lv_iload_n C.1.1 C.1.2.1 hd rfl (lv_of C.2.2 hl) (hk _ _ _ _ hX l D G p e s m args below meth c A ad0 ad H locs lsA C)
  · exact hX.elim
theorem snd_iload {M : MI} {pc : Nat} {n : Nat} (hd : decode (mC M) pc = .ok (.iload n, 2)) : Snd M pc (xLdI (pc + 2) n) := by
  intro Q ce sl k hce hsl hk ls st h hX
  have hX : (match ls[n]? with | some (some (.int x)) => k (pc + 2) ls (.int x :: st) h | _ => False) := hX
  split at hX
  · next x hl =>
    intro l D G p e s m args below meth c A ad0 ad H locs lsA C
    exact lv_iload C.1.1 C.1.2.1 hd (lv_of C.2.2 hl) (hk _ _ _ _ hX l D G p e s m args below meth c A ad0 ad H locs lsA C)
  · exact hX.elim
def xLdA (nx i : Nat) : XI := fun Q k ls st h => match ls[i]? with
  | some (some (.ref x)) => k nx ls (.ref x :: st) h
  | _ => False
theorem snd_aload_n {M : MI} {pc : Nat} {n : Fin 4} (hd : decode (mC M) pc = .ok (.aload_n n, 1)) : Snd M pc (xLdA (pc + 1) (n : Nat)) := by
  intro Q ce sl k hce hsl hk ls st h hX
  have hX : (match ls[(n : Nat)]? with | some (some (.ref x)) => k (pc + 1) ls (.ref x :: st) h | _ => False) := hX
  split at hX
  · next x hl =>
    intro l D G p e s m args below meth c A ad0 ad H locs lsA C
    exact lv_aload_n C.1.1 C.1.2.1 hd rfl (lv_of C.2.2 hl) (hk _ _ _ _ hX l D G p e s m args below meth c A ad0 ad H locs lsA C)
  · exact hX.elim
theorem snd_aload {M : MI} {pc : Nat} {n : Nat} (hd : decode (mC M) pc = .ok (.aload n, 2)) : Snd M pc (xLdA (pc + 2) n) := by
  intro Q ce sl k hce hsl hk ls st h hX
  have hX : (match ls[n]? with | some (some (.ref x)) => k (pc + 2) ls (.ref x :: st) h | _ => False) := hX
  split at hX
  · next x hl =>
    intro l D G p e s m args below meth c A ad0 ad H locs lsA C
    exact lv_aload C.1.1 C.1.2.1 hd (lv_of C.2.2 hl) (hk _ _ _ _ hX l D G p e s m args below meth c A ad0 ad H locs lsA C)
  · exact hX.elim
def xLdL (nx i : Nat) : XI := fun Q k ls st h => match ls[i]? with
  | some (some (.long x)) => k nx ls (.long x :: st) h
  | _ => False
theorem snd_lload_n {M : MI} {pc : Nat} {n : Fin 4} (hd : decode (mC M) pc = .ok (.lload_n n, 1)) : Snd M pc (xLdL (pc + 1) (n : Nat)) := by
  intro Q ce sl k hce hsl hk ls st h hX
  have hX : (match ls[(n : Nat)]? with | some (some (.long x)) => k (pc + 1) ls (.long x :: st) h | _ => False) := hX
  split at hX
  · next x hl =>
    intro l D G p e s m args below meth c A ad0 ad H locs lsA C
    exact lv_lload_n C.1.1 C.1.2.1 hd rfl (lv_of C.2.2 hl) (hk _ _ _ _ hX l D G p e s m args below meth c A ad0 ad H locs lsA C)
  · exact hX.elim
theorem snd_lload {M : MI} {pc : Nat} {n : Nat} (hd : decode (mC M) pc = .ok (.lload n, 2)) : Snd M pc (xLdL (pc + 2) n) := by
  intro Q ce sl k hce hsl hk ls st h hX
  have hX : (match ls[n]? with | some (some (.long x)) => k (pc + 2) ls (.long x :: st) h | _ => False) := hX
  split at hX
  · next x hl =>
    intro l D G p e s m args below meth c A ad0 ad H locs lsA C
    exact lv_lload C.1.1 C.1.2.1 hd (lv_of C.2.2 hl) (hk _ _ _ _ hX l D G p e s m args below meth c A ad0 ad H locs lsA C)
  · exact hX.elim
def xStI (nx i : Nat) : XI := fun Q k ls st h => match st with
  | .int x :: r => noL ls i = true ∧ k nx (ls.set i (some (.int x))) r h
  | _ => False
theorem snd_istore_n {M : MI} {pc : Nat} {n : Fin 4} (hd : decode (mC M) pc = .ok (.istore_n n, 1)) (hn : (n : Nat) < mN M) : Snd M pc (xStI (pc + 1) (n : Nat)) := by
  intro Q ce sl k hce hsl hk ls st h hX
  match st, hX with
  | .int x :: r, hX =>
    intro l D G p e s m args below meth c A ad0 ad H locs lsA C
    exact lv_istore_n C.1.1 C.1.2.1 hd rfl C.2.2 hn rfl (fun lsA' hL => hk _ _ _ _ hX.2 l D G p e s m args below meth c A ad0 ad H locs lsA' ⟨C.1, C.2.1, lv_st1 (v := .int x) hX.1 hL⟩)
theorem snd_istore {M : MI} {pc : Nat} {n : Nat} (hd : decode (mC M) pc = .ok (.istore n, 2)) (hn : n < mN M) : Snd M pc (xStI (pc + 2) n) := by
  intro Q ce sl k hce hsl hk ls st h hX
  match st, hX with
  | .int x :: r, hX =>
    intro l D G p e s m args below meth c A ad0 ad H locs lsA C
    exact lv_istore C.1.1 C.1.2.1 hd C.2.2 hn rfl (fun lsA' hL => hk _ _ _ _ hX.2 l D G p e s m args below meth c A ad0 ad H locs lsA' ⟨C.1, C.2.1, lv_st1 (v := .int x) hX.1 hL⟩)
def xStA (nx i : Nat) : XI := fun Q k ls st h => match st with
  | .ref x :: r => noL ls i = true ∧ k nx (ls.set i (some (.ref x))) r h
  | _ => False
theorem snd_astore_n {M : MI} {pc : Nat} {n : Fin 4} (hd : decode (mC M) pc = .ok (.astore_n n, 1)) (hn : (n : Nat) < mN M) : Snd M pc (xStA (pc + 1) (n : Nat)) := by
  intro Q ce sl k hce hsl hk ls st h hX
  match st, hX with
  | .ref x :: r, hX =>
    intro l D G p e s m args below meth c A ad0 ad H locs lsA C
    exact lv_astore_n C.1.1 C.1.2.1 hd rfl C.2.2 hn rfl (fun lsA' hL => hk _ _ _ _ hX.2 l D G p e s m args below meth c A ad0 ad H locs lsA' ⟨C.1, C.2.1, lv_st1 (v := .ref x) hX.1 hL⟩)
theorem snd_astore {M : MI} {pc : Nat} {n : Nat} (hd : decode (mC M) pc = .ok (.astore n, 2)) (hn : n < mN M) : Snd M pc (xStA (pc + 2) n) := by
  intro Q ce sl k hce hsl hk ls st h hX
  match st, hX with
  | .ref x :: r, hX =>
    intro l D G p e s m args below meth c A ad0 ad H locs lsA C
    exact lv_astore C.1.1 C.1.2.1 hd C.2.2 hn rfl (fun lsA' hL => hk _ _ _ _ hX.2 l D G p e s m args below meth c A ad0 ad H locs lsA' ⟨C.1, C.2.1, lv_st1 (v := .ref x) hX.1 hL⟩)
def xStL (nx i : Nat) : XI := fun Q k ls st h => match st with
  | .long x :: r => noL ls i = true ∧ k nx ((ls.set i (some (.long x))).set (i + 1) none) r h
  | _ => False
theorem snd_lstore_n {M : MI} {pc : Nat} {n : Fin 4} (hd : decode (mC M) pc = .ok (.lstore_n n, 1)) (hn : (n : Nat) + 1 < mN M) : Snd M pc (xStL (pc + 1) (n : Nat)) := by
  intro Q ce sl k hce hsl hk ls st h hX
  match st, hX with
  | .long x :: r, hX =>
    intro l D G p e s m args below meth c A ad0 ad H locs lsA C
    exact lv_lstore_n C.1.1 C.1.2.1 hd rfl C.2.2 hn rfl (fun lsA' hL => hk _ _ _ _ hX.2 l D G p e s m args below meth c A ad0 ad H locs lsA' ⟨C.1, C.2.1, lv_st2 (v := .long x) hX.1 hL⟩)
theorem snd_lstore {M : MI} {pc : Nat} {n : Nat} (hd : decode (mC M) pc = .ok (.lstore n, 2)) (hn : n + 1 < mN M) : Snd M pc (xStL (pc + 2) n) := by
  intro Q ce sl k hce hsl hk ls st h hX
  match st, hX with
  | .long x :: r, hX =>
    intro l D G p e s m args below meth c A ad0 ad H locs lsA C
    exact lv_lstore C.1.1 C.1.2.1 hd C.2.2 hn rfl (fun lsA' hL => hk _ _ _ _ hX.2 l D G p e s m args below meth c A ad0 ad H locs lsA' ⟨C.1, C.2.1, lv_st2 (v := .long x) hX.1 hL⟩)
def xInc (nx i : Nat) (v : Int32) : XI := fun Q k ls st h => match ls[i]? with
  | some (some (.int x)) => noL ls i = true ∧ k nx (ls.set i (some (.int (x + v)))) st h
  | _ => False
theorem snd_iinc {M : MI} {pc n : Nat} {b : Int} {v : Int32} (hd : decode (mC M) pc = .ok (.iinc n b, 3)) (hv : Int32.ofInt b = v) (hn : n < mN M) : Snd M pc (xInc (pc + 3) n v) := by
  intro Q ce sl k hce hsl hk ls st h hX
  have hX : (match ls[n]? with | some (some (.int x)) => noL ls n = true ∧ k (pc + 3) (ls.set n (some (.int (x + v)))) st h | _ => False) := hX
  split at hX
  · next x hl =>
    intro l D G p e s m args below meth c A ad0 ad H locs lsA C
    have hm : (n, Value.int x) ∈ asc 0 (trL ad ls) := (asc_mem _ _ _).mpr ⟨n, trL_get hl, by simp⟩
    obtain ⟨i, hi⟩ := List.getElem?_of_mem hm
    exact lv_iinc C.1.1 C.1.2.1 hd C.2.2 hi (by rw [hv]) hn rfl (fun lsA' hL => hk _ _ _ _ hX.2 l D G p e s m args below meth c A ad0 ad H locs lsA' ⟨C.1, C.2.1, lv_st1 (v := .int (x + v)) hX.1 hL⟩)
  · exact hX.elim
def xBin (nx : Nat) (f : Int32 → Int32 → Int32) : XI := fun Q k ls st h => match st with
  | .int y :: .int x :: r => k nx ls (.int (f x y) :: r) h
  | _ => False
def f_iadd (x y : Int32) : Int32 := x + y
theorem snd_iadd {M : MI} {pc : Nat} (hd : decode (mC M) pc = .ok (.iadd, 1)) : Snd M pc (xBin (pc + 1) f_iadd) := by
  intro Q ce sl k hce hsl hk ls st h hX
  match st, hX with
  | .int y :: .int x :: r, hX =>
    intro l D G p e s m args below meth c A ad0 ad H locs lsA C
    exact lv_iadd C.1.1 C.1.2.1 hd (hk _ _ _ _ hX l D G p e s m args below meth c A ad0 ad H locs lsA C)
def f_isub (x y : Int32) : Int32 := x - y
theorem snd_isub {M : MI} {pc : Nat} (hd : decode (mC M) pc = .ok (.isub, 1)) : Snd M pc (xBin (pc + 1) f_isub) := by
  intro Q ce sl k hce hsl hk ls st h hX
  match st, hX with
  | .int y :: .int x :: r, hX =>
    intro l D G p e s m args below meth c A ad0 ad H locs lsA C
    exact lv_isub C.1.1 C.1.2.1 hd (hk _ _ _ _ hX l D G p e s m args below meth c A ad0 ad H locs lsA C)
def f_imul (x y : Int32) : Int32 := x * y
theorem snd_imul {M : MI} {pc : Nat} (hd : decode (mC M) pc = .ok (.imul, 1)) : Snd M pc (xBin (pc + 1) f_imul) := by
  intro Q ce sl k hce hsl hk ls st h hX
  match st, hX with
  | .int y :: .int x :: r, hX =>
    intro l D G p e s m args below meth c A ad0 ad H locs lsA C
    exact lv_imul C.1.1 C.1.2.1 hd (hk _ _ _ _ hX l D G p e s m args below meth c A ad0 ad H locs lsA C)
def f_iand (x y : Int32) : Int32 := x &&& y
theorem snd_iand {M : MI} {pc : Nat} (hd : decode (mC M) pc = .ok (.iand, 1)) : Snd M pc (xBin (pc + 1) f_iand) := by
  intro Q ce sl k hce hsl hk ls st h hX
  match st, hX with
  | .int y :: .int x :: r, hX =>
    intro l D G p e s m args below meth c A ad0 ad H locs lsA C
    exact lv_iand C.1.1 C.1.2.1 hd (hk _ _ _ _ hX l D G p e s m args below meth c A ad0 ad H locs lsA C)
def f_ior (x y : Int32) : Int32 := x ||| y
theorem snd_ior {M : MI} {pc : Nat} (hd : decode (mC M) pc = .ok (.ior, 1)) : Snd M pc (xBin (pc + 1) f_ior) := by
  intro Q ce sl k hce hsl hk ls st h hX
  match st, hX with
  | .int y :: .int x :: r, hX =>
    intro l D G p e s m args below meth c A ad0 ad H locs lsA C
    exact lv_ior C.1.1 C.1.2.1 hd (hk _ _ _ _ hX l D G p e s m args below meth c A ad0 ad H locs lsA C)
def f_ixor (x y : Int32) : Int32 := x ^^^ y
theorem snd_ixor {M : MI} {pc : Nat} (hd : decode (mC M) pc = .ok (.ixor, 1)) : Snd M pc (xBin (pc + 1) f_ixor) := by
  intro Q ce sl k hce hsl hk ls st h hX
  match st, hX with
  | .int y :: .int x :: r, hX =>
    intro l D G p e s m args below meth c A ad0 ad H locs lsA C
    exact lv_ixor C.1.1 C.1.2.1 hd (hk _ _ _ _ hX l D G p e s m args below meth c A ad0 ad H locs lsA C)
def f_ishl (x y : Int32) : Int32 := x <<< (y &&& 31)
theorem snd_ishl {M : MI} {pc : Nat} (hd : decode (mC M) pc = .ok (.ishl, 1)) : Snd M pc (xBin (pc + 1) f_ishl) := by
  intro Q ce sl k hce hsl hk ls st h hX
  match st, hX with
  | .int y :: .int x :: r, hX =>
    intro l D G p e s m args below meth c A ad0 ad H locs lsA C
    exact lv_ishl C.1.1 C.1.2.1 hd (hk _ _ _ _ hX l D G p e s m args below meth c A ad0 ad H locs lsA C)
def f_ishr (x y : Int32) : Int32 := x >>> (y &&& 31)
theorem snd_ishr {M : MI} {pc : Nat} (hd : decode (mC M) pc = .ok (.ishr, 1)) : Snd M pc (xBin (pc + 1) f_ishr) := by
  intro Q ce sl k hce hsl hk ls st h hX
  match st, hX with
  | .int y :: .int x :: r, hX =>
    intro l D G p e s m args below meth c A ad0 ad H locs lsA C
    exact lv_ishr C.1.1 C.1.2.1 hd (hk _ _ _ _ hX l D G p e s m args below meth c A ad0 ad H locs lsA C)
def f_iushr (x y : Int32) : Int32 := (x.toUInt32 >>> (y.toUInt32 &&& Int32.toUInt32 31)).toInt32
theorem snd_iushr {M : MI} {pc : Nat} (hd : decode (mC M) pc = .ok (.iushr, 1)) : Snd M pc (xBin (pc + 1) f_iushr) := by
  intro Q ce sl k hce hsl hk ls st h hX
  match st, hX with
  | .int y :: .int x :: r, hX =>
    intro l D G p e s m args below meth c A ad0 ad H locs lsA C
    exact lv_iushr C.1.1 C.1.2.1 hd rfl (hk _ _ _ _ hX l D G p e s m args below meth c A ad0 ad H locs lsA C)
def xDiv (nx : Nat) (f : Int32 → Int32 → Int32) : XI := fun Q k ls st h => match st with
  | .int y :: .int x :: r => (¬ y = 0) ∧ k nx ls (.int (f x y) :: r) h
  | _ => False
def f_idiv (x y : Int32) : Int32 := x / y
theorem snd_idiv {M : MI} {pc : Nat} (hd : decode (mC M) pc = .ok (.idiv, 1)) : Snd M pc (xDiv (pc + 1) f_idiv) := by
  intro Q ce sl k hce hsl hk ls st h hX
  match st, hX with
  | .int y :: .int x :: r, hX =>
    intro l D G p e s m args below meth c A ad0 ad H locs lsA C
    exact lv_idiv C.1.1 C.1.2.1 hd hX.1 (hk _ _ _ _ hX.2 l D G p e s m args below meth c A ad0 ad H locs lsA C)
def f_irem (x y : Int32) : Int32 := x - x / y * y
theorem snd_irem {M : MI} {pc : Nat} (hd : decode (mC M) pc = .ok (.irem, 1)) : Snd M pc (xDiv (pc + 1) f_irem) := by
  intro Q ce sl k hce hsl hk ls st h hX
  match st, hX with
  | .int y :: .int x :: r, hX =>
    intro l D G p e s m args below meth c A ad0 ad H locs lsA C
    exact lv_irem C.1.1 C.1.2.1 hd hX.1 (hk _ _ _ _ hX.2 l D G p e s m args below meth c A ad0 ad H locs lsA C)
def xBinL (nx : Nat) (f : Int64 → Int64 → Int64) : XI := fun Q k ls st h => match st with
  | .long y :: .long x :: r => k nx ls (.long (f x y) :: r) h
  | _ => False
def f_ladd (x y : Int64) : Int64 := x + y
theorem snd_ladd {M : MI} {pc : Nat} (hd : decode (mC M) pc = .ok (.ladd, 1)) : Snd M pc (xBinL (pc + 1) f_ladd) := by
  intro Q ce sl k hce hsl hk ls st h hX
  match st, hX with
  | .long y :: .long x :: r, hX =>
    intro l D G p e s m args below meth c A ad0 ad H locs lsA C
    exact lv_ladd C.1.1 C.1.2.1 hd (hk _ _ _ _ hX l D G p e s m args below meth c A ad0 ad H locs lsA C)
def f_lmul (x y : Int64) : Int64 := x * y
theorem snd_lmul {M : MI} {pc : Nat} (hd : decode (mC M) pc = .ok (.lmul, 1)) : Snd M pc (xBinL (pc + 1) f_lmul) := by
  intro Q ce sl k hce hsl hk ls st h hX
  match st, hX with
  | .long y :: .long x :: r, hX =>
    intro l D G p e s m args below meth c A ad0 ad H locs lsA C
    exact lv_lmul C.1.1 C.1.2.1 hd (hk _ _ _ _ hX l D G p e s m args below meth c A ad0 ad H locs lsA C)
def xDivL (nx : Nat) (f : Int64 → Int64 → Int64) : XI := fun Q k ls st h => match st with
  | .long y :: .long x :: r => (¬ y = 0) ∧ k nx ls (.long (f x y) :: r) h
  | _ => False
def f_lrem (x y : Int64) : Int64 := x - x / y * y
theorem snd_lrem {M : MI} {pc : Nat} (hd : decode (mC M) pc = .ok (.lrem, 1)) : Snd M pc (xDivL (pc + 1) f_lrem) := by
  intro Q ce sl k hce hsl hk ls st h hX
  match st, hX with
  | .long y :: .long x :: r, hX =>
    intro l D G p e s m args below meth c A ad0 ad H locs lsA C
    exact lv_lrem C.1.1 C.1.2.1 hd hX.1 (hk _ _ _ _ hX.2 l D G p e s m args below meth c A ad0 ad H locs lsA C)
def xLcmp (nx : Nat) : XI := fun Q k ls st h => match st with
  | .long y :: .long x :: r => k nx ls (.int (lg_cmp x y) :: r) h
  | _ => False
def xI2l (nx : Nat) : XI := fun Q k ls st h => match st with
  | .int x :: r => k nx ls (.long x.toInt64 :: r) h
  | _ => False
def xL2i (nx : Nat) : XI := fun Q k ls st h => match st with
  | .long x :: r => k nx ls (.int x.toInt32 :: r) h
  | _ => False
def xI2c (nx : Nat) : XI := fun Q k ls st h => match st with
  | .int x :: r => k nx ls (.int (x.toUInt32 % 65536).toInt32 :: r) h
  | _ => False
theorem snd_lcmp {M : MI} {pc : Nat} (hd : decode (mC M) pc = .ok (.lcmp, 1)) : Snd M pc (xLcmp (pc + 1)) := by
  intro Q ce sl k hce hsl hk ls st h hX
  match st, hX with
  | .long y :: .long x :: r, hX =>
    intro l D G p e s m args below meth c A ad0 ad H locs lsA C
    exact W.lcmp C.1.1 C.1.2.1 hd (hk _ _ _ _ hX l D G p e s m args below meth c A ad0 ad H locs lsA C)
theorem snd_i2l {M : MI} {pc : Nat} (hd : decode (mC M) pc = .ok (.i2l, 1)) : Snd M pc (xI2l (pc + 1)) := by
  intro Q ce sl k hce hsl hk ls st h hX
  match st, hX with
  | .int x :: r, hX =>
    intro l D G p e s m args below meth c A ad0 ad H locs lsA C
    exact lv_i2l C.1.1 C.1.2.1 hd rfl (hk _ _ _ _ hX l D G p e s m args below meth c A ad0 ad H locs lsA C)
theorem snd_l2i {M : MI} {pc : Nat} (hd : decode (mC M) pc = .ok (.l2i, 1)) : Snd M pc (xL2i (pc + 1)) := by
  intro Q ce sl k hce hsl hk ls st h hX
  match st, hX with
  | .long x :: r, hX =>
    intro l D G p e s m args below meth c A ad0 ad H locs lsA C
    exact lv_l2i C.1.1 C.1.2.1 hd rfl (hk _ _ _ _ hX l D G p e s m args below meth c A ad0 ad H locs lsA C)
theorem snd_i2c {M : MI} {pc : Nat} (hd : decode (mC M) pc = .ok (.i2c, 1)) : Snd M pc (xI2c (pc + 1)) := by
  intro Q ce sl k hce hsl hk ls st h hX
  match st, hX with
  | .int x :: r, hX =>
    intro l D G p e s m args below meth c A ad0 ad H locs lsA C
    exact lv_i2c C.1.1 C.1.2.1 hd rfl (hk _ _ _ _ hX l D G p e s m args below meth c A ad0 ad H locs lsA C)
def xC_eq (tg nx : Nat) : XI := fun Q k ls st h => match st with
  | .int y :: .int x :: r => (x = y → k tg ls r h) ∧ (¬ (x = y) → k nx ls r h)
  | _ => False
def xZ_eq (tg nx : Nat) : XI := fun Q k ls st h => match st with
  | .int x :: r => (x = 0 → k tg ls r h) ∧ (¬ (x = 0) → k nx ls r h)
  | _ => False
theorem snd_icmp_eq {M : MI} {pc : Nat} {off : Int} {tg : Nat} (hd : decode (mC M) pc = .ok (.if_icmp .eq off, 3)) (ht : (pc : Int) + off = (tg : Int)) : Snd M pc (xC_eq tg (pc + 3)) := by
  intro Q ce sl k hce hsl hk ls st h hX
  match st, hX with
  | .int y :: .int x :: r, hX =>
    intro l D G p e s m args below meth c A ad0 ad H locs lsA C
    exact lv_icmp_eq C.1.1 C.1.2.1 hd ht (fun hc => hk _ _ _ _ (hX.1 hc) l D G p e s m args below meth c A ad0 ad H locs lsA C) (fun hc => hk _ _ _ _ (hX.2 hc) l D G p e s m args below meth c A ad0 ad H locs lsA C)
theorem snd_if_eq {M : MI} {pc : Nat} {off : Int} {tg : Nat} (hd : decode (mC M) pc = .ok (.ifCond .eq off, 3)) (ht : (pc : Int) + off = (tg : Int)) : Snd M pc (xZ_eq tg (pc + 3)) := by
  intro Q ce sl k hce hsl hk ls st h hX
  match st, hX with
  | .int x :: r, hX =>
    intro l D G p e s m args below meth c A ad0 ad H locs lsA C
    exact lv_if_eq C.1.1 C.1.2.1 hd ht (fun hc => hk _ _ _ _ (hX.1 hc) l D G p e s m args below meth c A ad0 ad H locs lsA C) (fun hc => hk _ _ _ _ (hX.2 hc) l D G p e s m args below meth c A ad0 ad H locs lsA C)
def xC_ne (tg nx : Nat) : XI := fun Q k ls st h => match st with
  | .int y :: .int x :: r => (¬ x = y → k tg ls r h) ∧ (x = y → k nx ls r h)
  | _ => False
def xZ_ne (tg nx : Nat) : XI := fun Q k ls st h => match st with
  | .int x :: r => (¬ x = 0 → k tg ls r h) ∧ (x = 0 → k nx ls r h)
  | _ => False
theorem snd_icmp_ne {M : MI} {pc : Nat} {off : Int} {tg : Nat} (hd : decode (mC M) pc = .ok (.if_icmp .ne off, 3)) (ht : (pc : Int) + off = (tg : Int)) : Snd M pc (xC_ne tg (pc + 3)) := by
  intro Q ce sl k hce hsl hk ls st h hX
  match st, hX with
  | .int y :: .int x :: r, hX =>
    intro l D G p e s m args below meth c A ad0 ad H locs lsA C
    exact lv_icmp_ne C.1.1 C.1.2.1 hd ht (fun hc => hk _ _ _ _ (hX.1 hc) l D G p e s m args below meth c A ad0 ad H locs lsA C) (fun hc => hk _ _ _ _ (hX.2 hc) l D G p e s m args below meth c A ad0 ad H locs lsA C)
theorem snd_if_ne {M : MI} {pc : Nat} {off : Int} {tg : Nat} (hd : decode (mC M) pc = .ok (.ifCond .ne off, 3)) (ht : (pc : Int) + off = (tg : Int)) : Snd M pc (xZ_ne tg (pc + 3)) := by
  intro Q ce sl k hce hsl hk ls st h hX
  match st, hX with
  | .int x :: r, hX =>
    intro l D G p e s m args below meth c A ad0 ad H locs lsA C
    exact lv_if_ne C.1.1 C.1.2.1 hd ht (fun hc => hk _ _ _ _ (hX.1 hc) l D G p e s m args below meth c A ad0 ad H locs lsA C) (fun hc => hk _ _ _ _ (hX.2 hc) l D G p e s m args below meth c A ad0 ad H locs lsA C)
def xC_lt (tg nx : Nat) : XI := fun Q k ls st h => match st with
  | .int y :: .int x :: r => (x < y → k tg ls r h) ∧ (¬ (x < y) → k nx ls r h)
  | _ => False
def xZ_lt (tg nx : Nat) : XI := fun Q k ls st h => match st with
  | .int x :: r => (x < 0 → k tg ls r h) ∧ (¬ (x < 0) → k nx ls r h)
  | _ => False
theorem snd_icmp_lt {M : MI} {pc : Nat} {off : Int} {tg : Nat} (hd : decode (mC M) pc = .ok (.if_icmp .lt off, 3)) (ht : (pc : Int) + off = (tg : Int)) : Snd M pc (xC_lt tg (pc + 3)) := by
  intro Q ce sl k hce hsl hk ls st h hX
  match st, hX with
  | .int y :: .int x :: r, hX =>
    intro l D G p e s m args below meth c A ad0 ad H locs lsA C
    exact lv_icmp_lt C.1.1 C.1.2.1 hd ht (fun hc => hk _ _ _ _ (hX.1 hc) l D G p e s m args below meth c A ad0 ad H locs lsA C) (fun hc => hk _ _ _ _ (hX.2 hc) l D G p e s m args below meth c A ad0 ad H locs lsA C)
theorem snd_if_lt {M : MI} {pc : Nat} {off : Int} {tg : Nat} (hd : decode (mC M) pc = .ok (.ifCond .lt off, 3)) (ht : (pc : Int) + off = (tg : Int)) : Snd M pc (xZ_lt tg (pc + 3)) := by
  intro Q ce sl k hce hsl hk ls st h hX
  match st, hX with
  | .int x :: r, hX =>
    intro l D G p e s m args below meth c A ad0 ad H locs lsA C
    exact lv_if_lt C.1.1 C.1.2.1 hd ht (fun hc => hk _ _ _ _ (hX.1 hc) l D G p e s m args below meth c A ad0 ad H locs lsA C) (fun hc => hk _ _ _ _ (hX.2 hc) l D G p e s m args below meth c A ad0 ad H locs lsA C)
def xC_ge (tg nx : Nat) : XI := fun Q k ls st h => match st with
  | .int y :: .int x :: r => (y ≤ x → k tg ls r h) ∧ (¬ (y ≤ x) → k nx ls r h)
  | _ => False
def xZ_ge (tg nx : Nat) : XI := fun Q k ls st h => match st with
  | .int x :: r => (0 ≤ x → k tg ls r h) ∧ (¬ (0 ≤ x) → k nx ls r h)
  | _ => False
theorem snd_icmp_ge {M : MI} {pc : Nat} {off : Int} {tg : Nat} (hd : decode (mC M) pc = .ok (.if_icmp .ge off, 3)) (ht : (pc : Int) + off = (tg : Int)) : Snd M pc (xC_ge tg (pc + 3)) := by
  intro Q ce sl k hce hsl hk ls st h hX
  match st, hX with
  | .int y :: .int x :: r, hX =>
    intro l D G p e s m args below meth c A ad0 ad H locs lsA C
    exact lv_icmp_ge C.1.1 C.1.2.1 hd ht (fun hc => hk _ _ _ _ (hX.1 hc) l D G p e s m args below meth c A ad0 ad H locs lsA C) (fun hc => hk _ _ _ _ (hX.2 hc) l D G p e s m args below meth c A ad0 ad H locs lsA C)
theorem snd_if_ge {M : MI} {pc : Nat} {off : Int} {tg : Nat} (hd : decode (mC M) pc = .ok (.ifCond .ge off, 3)) (ht : (pc : Int) + off = (tg : Int)) : Snd M pc (xZ_ge tg (pc + 3)) := by
  intro Q ce sl k hce hsl hk ls st h hX
  match st, hX with
  | .int x :: r, hX =>
    intro l D G p e s m args below meth c A ad0 ad H locs lsA C
    exact lv_if_ge C.1.1 C.1.2.1 hd ht (fun hc => hk _ _ _ _ (hX.1 hc) l D G p e s m args below meth c A ad0 ad H locs lsA C) (fun hc => hk _ _ _ _ (hX.2 hc) l D G p e s m args below meth c A ad0 ad H locs lsA C)
def xC_gt (tg nx : Nat) : XI := fun Q k ls st h => match st with
  | .int y :: .int x :: r => (y < x → k tg ls r h) ∧ (¬ (y < x) → k nx ls r h)
  | _ => False
def xZ_gt (tg nx : Nat) : XI := fun Q k ls st h => match st with
  | .int x :: r => (0 < x → k tg ls r h) ∧ (¬ (0 < x) → k nx ls r h)
  | _ => False
theorem snd_icmp_gt {M : MI} {pc : Nat} {off : Int} {tg : Nat} (hd : decode (mC M) pc = .ok (.if_icmp .gt off, 3)) (ht : (pc : Int) + off = (tg : Int)) : Snd M pc (xC_gt tg (pc + 3)) := by
  intro Q ce sl k hce hsl hk ls st h hX
  match st, hX with
  | .int y :: .int x :: r, hX =>
    intro l D G p e s m args below meth c A ad0 ad H locs lsA C
    exact lv_icmp_gt C.1.1 C.1.2.1 hd ht (fun hc => hk _ _ _ _ (hX.1 hc) l D G p e s m args below meth c A ad0 ad H locs lsA C) (fun hc => hk _ _ _ _ (hX.2 hc) l D G p e s m args below meth c A ad0 ad H locs lsA C)
theorem snd_if_gt {M : MI} {pc : Nat} {off : Int} {tg : Nat} (hd : decode (mC M) pc = .ok (.ifCond .gt off, 3)) (ht : (pc : Int) + off = (tg : Int)) : Snd M pc (xZ_gt tg (pc + 3)) := by
  intro Q ce sl k hce hsl hk ls st h hX
  match st, hX with
  | .int x :: r, hX =>
    intro l D G p e s m args below meth c A ad0 ad H locs lsA C
    exact lv_if_gt C.1.1 C.1.2.1 hd ht (fun hc => hk _ _ _ _ (hX.1 hc) l D G p e s m args below meth c A ad0 ad H locs lsA C) (fun hc => hk _ _ _ _ (hX.2 hc) l D G p e s m args below meth c A ad0 ad H locs lsA C)
def xC_le (tg nx : Nat) : XI := fun Q k ls st h => match st with
  | .int y :: .int x :: r => (x ≤ y → k tg ls r h) ∧ (¬ (x ≤ y) → k nx ls r h)
  | _ => False
def xZ_le (tg nx : Nat) : XI := fun Q k ls st h => match st with
  | .int x :: r => (x ≤ 0 → k tg ls r h) ∧ (¬ (x ≤ 0) → k nx ls r h)
  | _ => False
theorem snd_icmp_le {M : MI} {pc : Nat} {off : Int} {tg : Nat} (hd : decode (mC M) pc = .ok (.if_icmp .le off, 3)) (ht : (pc : Int) + off = (tg : Int)) : Snd M pc (xC_le tg (pc + 3)) := by
  intro Q ce sl k hce hsl hk ls st h hX
  match st, hX with
  | .int y :: .int x :: r, hX =>
    intro l D G p e s m args below meth c A ad0 ad H locs lsA C
    exact lv_icmp_le C.1.1 C.1.2.1 hd ht (fun hc => hk _ _ _ _ (hX.1 hc) l D G p e s m args below meth c A ad0 ad H locs lsA C) (fun hc => hk _ _ _ _ (hX.2 hc) l D G p e s m args below meth c A ad0 ad H locs lsA C)
theorem snd_if_le {M : MI} {pc : Nat} {off : Int} {tg : Nat} (hd : decode (mC M) pc = .ok (.ifCond .le off, 3)) (ht : (pc : Int) + off = (tg : Int)) : Snd M pc (xZ_le tg (pc + 3)) := by
  intro Q ce sl k hce hsl hk ls st h hX
  match st, hX with
  | .int x :: r, hX =>
    intro l D G p e s m args below meth c A ad0 ad H locs lsA C
    exact lv_if_le C.1.1 C.1.2.1 hd ht (fun hc => hk _ _ _ _ (hX.1 hc) l D G p e s m args below meth c A ad0 ad H locs lsA C) (fun hc => hk _ _ _ _ (hX.2 hc) l D G p e s m args below meth c A ad0 ad H locs lsA C)
def xGo (tg : Nat) : XI := fun Q k ls st h => k tg ls st h
theorem snd_goto {M : MI} {pc : Nat} {off : Int} {tg : Nat} (hd : decode (mC M) pc = .ok (.goto off, 3)) (ht : (pc : Int) + off = (tg : Int)) : Snd M pc (xGo tg) := by
  intro Q ce sl k hce hsl hk ls st h hX
  match st, hX with
  | st, hX =>
    intro l D G p e s m args below meth c A ad0 ad H locs lsA C
    exact lv_goto C.1.1 C.1.2.1 hd ht (hk _ _ _ _ hX l D G p e s m args below meth c A ad0 ad H locs lsA C)
def tsw (k : KT) (ls : LSt) (r : List Value) (h : SH) (x : Int32) : List Nat → Nat → Prop
  | [], _ => True
  | tg :: ts, j => (x = nI j → k tg ls r h) ∧ tsw k ls r h x ts (j + 1)
theorem tsw_get {k : KT} {ls : LSt} {r : List Value} {h : SH} {x : Int32} : ∀ {ts : List Nat} {j i : Nat} {tg : Nat}, tsw k ls r h x ts j → ts[i]? = some tg → x = nI (j + i) → k tg ls r h
  | [], _, _, _, _, h2, _ => by simp at h2
  | t :: ts, j, 0, tg, h1, h2, h3 => by
    simp at h2
    subst h2
    exact h1.1 h3
  | t :: ts, j, i + 1, tg, h1, h2, h3 => tsw_get (i := i) h1.2 (by simpa using h2) (by rw [h3]; congr 1; omega)
def xTsw (df lo : Nat) (ts : List Nat) : XI := fun Q k ls st h => match st with
  | .int x :: r => ((x < nI lo ∨ nI (lo + ts.length) ≤ x) → k df ls r h) ∧ tsw k ls r h x ts lo
  | _ => False
theorem snd_tsw {M : MI} {pc len df lo : Nat} {d lo' hi : Int} {offs : Array Int} {ts : List Nat} (hd : decode (mC M) pc = .ok (.tableswitch d lo' hi offs, len)) (hlo : lo' = (lo : Int)) (hdf : (pc : Int) + d = (df : Int)) (hhi : hi + 1 = ((lo + ts.length : Nat) : Int)) (hlen : lo + ts.length < 1000) (hts : ∀ i, i < ts.length → (offs[i]?).map (fun o => (pc : Int) + o) = (ts[i]?).map (fun t : Nat => (t : Int))) : Snd M pc (xTsw df lo ts) := by
  intro Q ce sl k hce hsl hk ls st h hX
  match st, hX with
  | .int x :: r, hX =>
    intro l D G p e s m args below meth c A ad0 ad H locs lsA C
    by_cases hr : x < nI lo ∨ nI (lo + ts.length) ≤ x
    · refine lv_tableOut C.1.1 C.1.2.1 hd ?_ hdf (hk _ _ _ _ (hX.1 hr) l D G p e s m args below meth c A ad0 ad H locs lsA C)
      rcases hr with hr | hr
      · left
        have h1 := Int32.lt_iff_toInt_lt.mp hr
        rw [nI_toInt (by omega)] at h1
        omega
      · right
        have h1 := Int32.le_iff_toInt_le.mp hr
        rw [nI_toInt (by omega)] at h1
        omega
    · have h0 : ¬ x < 0 := fun q => hr (Or.inl (by
        have h1 := Int32.lt_iff_toInt_lt.mp q
        refine Int32.lt_iff_toInt_lt.mpr ?_
        rw [nI_toInt (by omega)]
        simp at h1
        omega))
      obtain ⟨j, hj, rfl⟩ := nI_of h0
      have hj1 : lo ≤ j := by
        rcases Nat.lt_or_ge j lo with q | q
        · exact absurd (Or.inl (nI_lt q (by omega))) hr
        · exact q
      have hj2 : j < lo + ts.length := by
        rcases Nat.lt_or_ge j (lo + ts.length) with q | q
        · exact q
        · exact absurd (Or.inr (nI_le q hj)) hr
      obtain ⟨i, rfl⟩ : ∃ i, j = lo + i := ⟨j - lo, by omega⟩
      have hil : i < ts.length := by omega
      have h2 := hts i hil
      rw [List.getElem?_eq_getElem hil] at h2
      cases ho : offs[i]? with
      | none => rw [ho] at h2; simp at h2
      | some o =>
        rw [ho] at h2
        have h3 : (pc : Int) + o = ((ts[i] : Nat) : Int) := by simpa using h2
        refine lv_tableIn C.1.1 C.1.2.1 hd (off := o) (tgt := ts[i]) ?_ ?_ ?_ h3 (hk _ _ _ _ (tsw_get (i := i) hX.2 (List.getElem?_eq_getElem hil) rfl) l D G p e s m args below meth c A ad0 ad H locs lsA C)
        · rw [nI_toInt hj]; omega
        · rw [nI_toInt hj]; omega
        · rw [nI_toInt hj, show (((lo + i : Nat) : Int) - lo').toNat = i by omega]
          exact ho
def xDup (nx : Nat) : XI := fun Q k ls st h => match st with
  | v :: r => v.category = 1 ∧ k nx ls (v :: v :: r) h
  | _ => False
def xDup2 (nx : Nat) : XI := fun Q k ls st h => match st with
  | v :: w :: r => v.category = 1 ∧ w.category = 1 ∧ k nx ls (v :: w :: v :: w :: r) h
  | _ => False
def xPop (nx : Nat) : XI := fun Q k ls st h => match st with
  | v :: r => v.category = 1 ∧ k nx ls r h
  | _ => False
theorem snd_dup {M : MI} {pc : Nat} (hd : decode (mC M) pc = .ok (.dup, 1)) : Snd M pc (xDup (pc + 1)) := by
  intro Q ce sl k hce hsl hk ls st h hX
  match st, hX with
  | v :: r, hX =>
    intro l D G p e s m args below meth c A ad0 ad H locs lsA C
    exact lv_dup C.1.1 C.1.2.1 hd ((tr_cat _ _).trans hX.1) (hk _ _ _ _ hX.2 l D G p e s m args below meth c A ad0 ad H locs lsA C)
theorem snd_dup2 {M : MI} {pc : Nat} (hd : decode (mC M) pc = .ok (.dup2, 1)) : Snd M pc (xDup2 (pc + 1)) := by
  intro Q ce sl k hce hsl hk ls st h hX
  match st, hX with
  | v :: w :: r, hX =>
    intro l D G p e s m args below meth c A ad0 ad H locs lsA C
    exact lv_dup2_11 C.1.1 C.1.2.1 hd ((tr_cat _ _).trans hX.1) ((tr_cat _ _).trans hX.2.1) (hk _ _ _ _ hX.2.2 l D G p e s m args below meth c A ad0 ad H locs lsA C)
theorem snd_pop {M : MI} {pc : Nat} (hd : decode (mC M) pc = .ok (.pop, 1)) : Snd M pc (xPop (pc + 1)) := by
  intro Q ce sl k hce hsl hk ls st h hX
  match st, hX with
  | v :: r, hX =>
    intro l D G p e s m args below meth c A ad0 ad H locs lsA C
    exact lv_pop C.1.1 C.1.2.1 hd ((tr_cat _ _).trans hX.1) (hk _ _ _ _ hX.2 l D G p e s m args below meth c A ad0 ad H locs lsA C)
def xGf (nx ci j : Nat) : XI := fun Q k ls st h => match st with
  | .ref a :: r => match h[a]? with
    | some (.inr (cj, fs)) => cj = ci ∧ match fs[j]? with
      | some v => k nx ls (v :: r) h
      | none => False
    | _ => False
  | _ => False
theorem snd_gf {M : MI} {pc ci idx N j : Nat} {C0 : String} {T0 : u_T} (hd : decode (mC M) pc = .ok (.getfield idx, 3)) (hc : vwCl[ci]? = some (C0, T0, N)) (hin : ∀ w ∈ u_ws C0 T0 N, w ∈ TB) (hj : j < N) (hw : Cond.fieldLink (mY M).cls idx (T0 j).1 (T0 j).2.1 (T0 j).2.2.1 ∈ TB) : Snd M pc (xGf (pc + 3) ci j) := by
  intro Q ce sl k hce hsl hk ls st h hX
  match st, hX with
  | .ref a :: r, hX =>
    simp only [xGf] at hX
    split at hX
    · next cj fs hcell =>
      obtain ⟨hcj, hX2⟩ := hX
      subst hcj
      split at hX2
      · next v hv =>
        intro l D G p e s m args below meth c A ad0 ad H locs lsA C
        exact va_get C.1.1 C.1.2.1 C.1.2.2.2.2.2.1 hin C.1.2.2.2.2.1 C.1.2.2.2.2.2.2.2.2.2.2.1 C.2.1.2.1 a (mkW_get C.2.1.1 hcell) hc j hj (C.1.2.2.2.2.2.1 _ hw) (fun _ h9 => h9) (by rw [List.getElem?_map, hv]; rfl) hd (hk _ _ _ _ hX2 l D G p e s m args below meth c A ad0 ad H locs lsA C)
      · exact hX2.elim
    · exact hX.elim
def xPfI (nx ci j : Nat) : XI := fun Q k ls st h => match st with
  | .int x :: .ref a :: r => match h[a]? with
    | some (.inr (cj, fs)) => cj = ci ∧ j < fs.length ∧ k nx ls r (h.set a (.inr (ci, fs.set j (.int x))))
    | _ => False
  | _ => False
theorem snd_pfI {M : MI} {pc ci idx N j : Nat} {C0 : String} {T0 : u_T} (hd : decode (mC M) pc = .ok (.putfield idx, 3)) (hc : vwCl[ci]? = some (C0, T0, N)) (hin : ∀ w ∈ u_ws C0 T0 N, w ∈ TB) (ty0 : Nat → FieldType) (hty : ∀ k, k < N → parseFieldDescriptor (T0 k).2.2.1 = some (ty0 k)) (hnm : ∀ a, a < N → ∀ b, b < N → a ≠ b → (T0 a).2.1 ≠ (T0 b).2.1) (hj : j < N) (hw : Cond.fieldLink (mY M).cls idx (T0 j).1 (T0 j).2.1 (T0 j).2.2.1 ∈ TB) (hfin : (T0 j).2.2.2 = false) (hty1 : parseFieldDescriptor (T0 j).2.2.1 = some .int) : Snd M pc (xPfI (pc + 3) ci j) := by
  intro Q ce sl k hce hsl hk ls st h hX
  match st, hX with
  | .int x :: .ref a :: r, hX =>
    simp only [xPfI] at hX
    split at hX
    · next cj fs hcell =>
      obtain ⟨rfl, hjl, hX⟩ := hX
      intro l D G p e s m args below meth c A ad0 ad H locs lsA C
      refine va_put C.1.1 C.1.2.1 C.1.2.2.2.2.2.1 hin ty0 hty hnm C.1.2.2.2.2.1 C.1.2.2.2.2.2.2.2.2.2.2.1 C.2.1.2.1 C.2.1.2.2.1 C.2.1.2.2.2 a (mkW_get C.2.1.1 hcell) hc j hj (C.1.2.2.2.2.2.1 _ hw) (fun _ h9 => h9) hfin hty1 rfl rfl (by rw [List.length_map]; exact hjl) hd (fun H1 locs1 hP hD hS => ?_)
      have hew : (mkW ad G h).set a (ad.getD a 0, .inr (cj, (fs.map (tr ad)).set j (tr ad (.int x)))) = mkW ad G (h.set a (.inr (cj, fs.set j (.int x)))) := by
        rw [← mkW_set C.2.1.1 hcell]
        simp only [trC, List.map_set]
      have hP : va_P D vwCl (mkW ad G (h.set a (.inr (cj, fs.set j (.int x))))) H1 := by rw [← hew]; exact hP
      have hD : va_D A (mkW ad G (h.set a (.inr (cj, fs.set j (.int x))))) := by rw [← hew]; exact hD
      exact hk _ _ _ _ hX l D G p e s m args below meth c A ad0 ad H1 locs1 lsA ⟨C.1, ⟨by rw [List.length_set]; exact C.2.1.1, hP, hD, hS⟩, C.2.2⟩
    · exact hX.elim
theorem snd_pfIF {M : MI} {pc ci idx N j : Nat} {C0 : String} {T0 : u_T} (hd : decode (mC M) pc = .ok (.putfield idx, 3)) (hc : vwCl[ci]? = some (C0, T0, N)) (hin : ∀ w ∈ u_ws C0 T0 N, w ∈ TB) (ty0 : Nat → FieldType) (hty : ∀ k, k < N → parseFieldDescriptor (T0 k).2.2.1 = some (ty0 k)) (hnm : ∀ a, a < N → ∀ b, b < N → a ≠ b → (T0 a).2.1 ≠ (T0 b).2.1) (hj : j < N) (hw : Cond.fieldLink (mY M).cls idx (T0 j).1 (T0 j).2.1 (T0 j).2.2.1 ∈ TB) (hfin : (T0 j).2.2.2 = true) (hinit : (mY M).name = "<init>") (hdecl : (T0 j).1 = (mY M).cls) (hty1 : parseFieldDescriptor (T0 j).2.2.1 = some .int) : Snd M pc (xPfI (pc + 3) ci j) := by
  intro Q ce sl k hce hsl hk ls st h hX
  match st, hX with
  | .int x :: .ref a :: r, hX =>
    simp only [xPfI] at hX
    split at hX
    · next cj fs hcell =>
      obtain ⟨rfl, hjl, hX⟩ := hX
      intro l D G p e s m args below meth c A ad0 ad H locs lsA C
      refine va_putF C.1.1 C.1.2.1 C.1.2.2.2.2.2.1 hin ty0 hty hnm C.1.2.2.2.2.1 C.1.2.2.2.2.2.2.2.2.2.2.1 C.2.1.2.1 C.2.1.2.2.1 C.2.1.2.2.2 a (mkW_get C.2.1.1 hcell) hc j hj (C.1.2.2.2.2.2.1 _ hw) (fun _ h9 => h9) hfin (C.1.2.2.2.2.2.2.2.2.1.trans hinit) hdecl hty1 rfl rfl (by rw [List.length_map]; exact hjl) hd (fun H1 locs1 hP hD hS => ?_)
      have hew : (mkW ad G h).set a (ad.getD a 0, .inr (cj, (fs.map (tr ad)).set j (tr ad (.int x)))) = mkW ad G (h.set a (.inr (cj, fs.set j (.int x)))) := by
        rw [← mkW_set C.2.1.1 hcell]
        simp only [trC, List.map_set]
      have hP : va_P D vwCl (mkW ad G (h.set a (.inr (cj, fs.set j (.int x))))) H1 := by rw [← hew]; exact hP
      have hD : va_D A (mkW ad G (h.set a (.inr (cj, fs.set j (.int x))))) := by rw [← hew]; exact hD
      exact hk _ _ _ _ hX l D G p e s m args below meth c A ad0 ad H1 locs1 lsA ⟨C.1, ⟨by rw [List.length_set]; exact C.2.1.1, hP, hD, hS⟩, C.2.2⟩
    · exact hX.elim
def xPfR (nx ci j : Nat) : XI := fun Q k ls st h => match st with
  | .ref x :: .ref a :: r => match h[a]? with
    | some (.inr (cj, fs)) => cj = ci ∧ j < fs.length ∧ k nx ls r (h.set a (.inr (ci, fs.set j (.ref x))))
    | _ => False
  | _ => False
theorem snd_pfR {M : MI} {pc ci idx N j : Nat} {C0 : String} {T0 : u_T} (hd : decode (mC M) pc = .ok (.putfield idx, 3)) (hc : vwCl[ci]? = some (C0, T0, N)) (hin : ∀ w ∈ u_ws C0 T0 N, w ∈ TB) (ty0 : Nat → FieldType) (hty : ∀ k, k < N → parseFieldDescriptor (T0 k).2.2.1 = some (ty0 k)) (hnm : ∀ a, a < N → ∀ b, b < N → a ≠ b → (T0 a).2.1 ≠ (T0 b).2.1) (hj : j < N) (hw : Cond.fieldLink (mY M).cls idx (T0 j).1 (T0 j).2.1 (T0 j).2.2.1 ∈ TB) (hfin : (T0 j).2.2.2 = false) {ty1 : FieldType} (hty1 : parseFieldDescriptor (T0 j).2.2.1 = some ty1) (hn1 : ∀ x : Nat, narrow ty1 (.ref x) = .ref x) (hf1 : ∀ x : Nat, fits ty1 (.ref x) = true) : Snd M pc (xPfR (pc + 3) ci j) := by
  intro Q ce sl k hce hsl hk ls st h hX
  match st, hX with
  | .ref x :: .ref a :: r, hX =>
    simp only [xPfR] at hX
    split at hX
    · next cj fs hcell =>
      obtain ⟨rfl, hjl, hX⟩ := hX
      intro l D G p e s m args below meth c A ad0 ad H locs lsA C
      refine va_put C.1.1 C.1.2.1 C.1.2.2.2.2.2.1 hin ty0 hty hnm C.1.2.2.2.2.1 C.1.2.2.2.2.2.2.2.2.2.2.1 C.2.1.2.1 C.2.1.2.2.1 C.2.1.2.2.2 a (mkW_get C.2.1.1 hcell) hc j hj (C.1.2.2.2.2.2.1 _ hw) (fun _ h9 => h9) hfin hty1 (hn1 _) (hf1 _) (by rw [List.length_map]; exact hjl) hd (fun H1 locs1 hP hD hS => ?_)
      have hew : (mkW ad G h).set a (ad.getD a 0, .inr (cj, (fs.map (tr ad)).set j (tr ad (.ref x)))) = mkW ad G (h.set a (.inr (cj, fs.set j (.ref x)))) := by
        rw [← mkW_set C.2.1.1 hcell]
        simp only [trC, List.map_set]
      have hP : va_P D vwCl (mkW ad G (h.set a (.inr (cj, fs.set j (.ref x))))) H1 := by rw [← hew]; exact hP
      have hD : va_D A (mkW ad G (h.set a (.inr (cj, fs.set j (.ref x))))) := by rw [← hew]; exact hD
      exact hk _ _ _ _ hX l D G p e s m args below meth c A ad0 ad H1 locs1 lsA ⟨C.1, ⟨by rw [List.length_set]; exact C.2.1.1, hP, hD, hS⟩, C.2.2⟩
    · exact hX.elim
theorem snd_pfRF {M : MI} {pc ci idx N j : Nat} {C0 : String} {T0 : u_T} (hd : decode (mC M) pc = .ok (.putfield idx, 3)) (hc : vwCl[ci]? = some (C0, T0, N)) (hin : ∀ w ∈ u_ws C0 T0 N, w ∈ TB) (ty0 : Nat → FieldType) (hty : ∀ k, k < N → parseFieldDescriptor (T0 k).2.2.1 = some (ty0 k)) (hnm : ∀ a, a < N → ∀ b, b < N → a ≠ b → (T0 a).2.1 ≠ (T0 b).2.1) (hj : j < N) (hw : Cond.fieldLink (mY M).cls idx (T0 j).1 (T0 j).2.1 (T0 j).2.2.1 ∈ TB) (hfin : (T0 j).2.2.2 = true) (hinit : (mY M).name = "<init>") (hdecl : (T0 j).1 = (mY M).cls) {ty1 : FieldType} (hty1 : parseFieldDescriptor (T0 j).2.2.1 = some ty1) (hn1 : ∀ x : Nat, narrow ty1 (.ref x) = .ref x) (hf1 : ∀ x : Nat, fits ty1 (.ref x) = true) : Snd M pc (xPfR (pc + 3) ci j) := by
  intro Q ce sl k hce hsl hk ls st h hX
  match st, hX with
  | .ref x :: .ref a :: r, hX =>
    simp only [xPfR] at hX
    split at hX
    · next cj fs hcell =>
      obtain ⟨rfl, hjl, hX⟩ := hX
      intro l D G p e s m args below meth c A ad0 ad H locs lsA C
      refine va_putF C.1.1 C.1.2.1 C.1.2.2.2.2.2.1 hin ty0 hty hnm C.1.2.2.2.2.1 C.1.2.2.2.2.2.2.2.2.2.2.1 C.2.1.2.1 C.2.1.2.2.1 C.2.1.2.2.2 a (mkW_get C.2.1.1 hcell) hc j hj (C.1.2.2.2.2.2.1 _ hw) (fun _ h9 => h9) hfin (C.1.2.2.2.2.2.2.2.2.1.trans hinit) hdecl hty1 (hn1 _) (hf1 _) (by rw [List.length_map]; exact hjl) hd (fun H1 locs1 hP hD hS => ?_)
      have hew : (mkW ad G h).set a (ad.getD a 0, .inr (cj, (fs.map (tr ad)).set j (tr ad (.ref x)))) = mkW ad G (h.set a (.inr (cj, fs.set j (.ref x)))) := by
        rw [← mkW_set C.2.1.1 hcell]
        simp only [trC, List.map_set]
      have hP : va_P D vwCl (mkW ad G (h.set a (.inr (cj, fs.set j (.ref x))))) H1 := by rw [← hew]; exact hP
      have hD : va_D A (mkW ad G (h.set a (.inr (cj, fs.set j (.ref x))))) := by rw [← hew]; exact hD
      exact hk _ _ _ _ hX l D G p e s m args below meth c A ad0 ad H1 locs1 lsA ⟨C.1, ⟨by rw [List.length_set]; exact C.2.1.1, hP, hD, hS⟩, C.2.2⟩
    · exact hX.elim
def xiaload (nx : Nat) : XI := fun Q k ls st h => match st with
  | .int i :: .ref a :: r => match h[a]? with
    | some (.inl (false, n, f)) => vp_in i n ∧ k nx ls (.int (f i.toNatClampNeg) :: r) h
    | _ => False
  | _ => False
theorem snd_iaload {M : MI} {pc : Nat} (hd : decode (mC M) pc = .ok (.iaload, 1)) : Snd M pc (xiaload (pc + 1)) := by
  intro Q ce sl k hce hsl hk ls st h hX
  match st, hX with
  | .int i :: .ref a :: r, hX =>
    simp only [xiaload] at hX
    split at hX
    · next n f hcell =>
      intro l D G p e s m args below meth c A ad0 ad H locs lsA C
      exact va_iald C.1.1 C.1.2.1 C.1.2.2.2.2.2.2.2.2.2.2.1 C.2.1.2.1 a 0 (mkW_get C.2.1.1 hcell) rfl hX.1 hd (hk _ _ _ _ hX.2 l D G p e s m args below meth c A ad0 ad H locs lsA C)
    · exact hX.elim
def xcaload (nx : Nat) : XI := fun Q k ls st h => match st with
  | .int i :: .ref a :: r => match h[a]? with
    | some (.inl (true, n, f)) => vp_in i n ∧ k nx ls (.int (f i.toNatClampNeg) :: r) h
    | _ => False
  | _ => False
theorem snd_caload {M : MI} {pc : Nat} (hd : decode (mC M) pc = .ok (.caload, 1)) : Snd M pc (xcaload (pc + 1)) := by
  intro Q ce sl k hce hsl hk ls st h hX
  match st, hX with
  | .int i :: .ref a :: r, hX =>
    simp only [xcaload] at hX
    split at hX
    · next n f hcell =>
      intro l D G p e s m args below meth c A ad0 ad H locs lsA C
      exact va_cald C.1.1 C.1.2.1 C.1.2.2.2.2.2.2.2.2.2.2.1 C.2.1.2.1 a 1 (mkW_get C.2.1.1 hcell) rfl hX.1 hd (hk _ _ _ _ hX.2 l D G p e s m args below meth c A ad0 ad H locs lsA C)
    · exact hX.elim
def xiastore (nx : Nat) : XI := fun Q k ls st h => match st with
  | .int x :: .int i :: .ref a :: r => match h[a]? with
    | some (.inl (false, n, f)) => vp_in i n ∧ k nx ls r (h.set a (.inl (false, n, upd f i.toNatClampNeg x)))
    | _ => False
  | _ => False
theorem snd_iastore {M : MI} {pc : Nat} (hd : decode (mC M) pc = .ok (.iastore, 1)) : Snd M pc (xiastore (pc + 1)) := by
  intro Q ce sl k hce hsl hk ls st h hX
  match st, hX with
  | .int x :: .int i :: .ref a :: r, hX =>
    simp only [xiastore] at hX
    split at hX
    · next n f hcell =>
      intro l D G p e s m args below meth c A ad0 ad H locs lsA C
      refine va_iast C.1.1 C.1.2.1 C.1.2.2.2.2.2.2.2.2.2.2.1 C.2.1.2.1 C.2.1.2.2.1 C.2.1.2.2.2 a 0 (mkW_get C.2.1.1 hcell) rfl hX.1 hd (fun H1 locs1 hP hD hS => ?_)
      have hew : (mkW ad G h).set a (ad.getD a 0, .inl (if false = true then G.2 else G.1, n, .inl (upd f i.toNatClampNeg x))) = mkW ad G (h.set a (.inl (false, n, upd f i.toNatClampNeg x))) := by
        rw [← mkW_set C.2.1.1 hcell]
        simp only [trC]
      have hP : va_P D vwCl (mkW ad G (h.set a (.inl (false, n, upd f i.toNatClampNeg x)))) H1 := by rw [← hew]; exact hP
      have hD : va_D A (mkW ad G (h.set a (.inl (false, n, upd f i.toNatClampNeg x)))) := by rw [← hew]; exact hD
      exact hk _ _ _ _ hX.2 l D G p e s m args below meth c A ad0 ad H1 locs1 lsA ⟨C.1, ⟨by rw [List.length_set]; exact C.2.1.1, hP, hD, hS⟩, C.2.2⟩
    · exact hX.elim
def xcastore (nx : Nat) : XI := fun Q k ls st h => match st with
  | .int x :: .int i :: .ref a :: r => match h[a]? with
    | some (.inl (true, n, f)) => vp_in i n ∧ k nx ls r (h.set a (.inl (true, n, upd f i.toNatClampNeg (vp_nar .char x))))
    | _ => False
  | _ => False
theorem snd_castore {M : MI} {pc : Nat} (hd : decode (mC M) pc = .ok (.castore, 1)) : Snd M pc (xcastore (pc + 1)) := by
  intro Q ce sl k hce hsl hk ls st h hX
  match st, hX with
  | .int x :: .int i :: .ref a :: r, hX =>
    simp only [xcastore] at hX
    split at hX
    · next n f hcell =>
      intro l D G p e s m args below meth c A ad0 ad H locs lsA C
      refine va_cast C.1.1 C.1.2.1 C.1.2.2.2.2.2.2.2.2.2.2.1 C.2.1.2.1 C.2.1.2.2.1 C.2.1.2.2.2 a 1 (mkW_get C.2.1.1 hcell) rfl hX.1 hd (fun H1 locs1 hP hD hS => ?_)
      have hew : (mkW ad G h).set a (ad.getD a 0, .inl (if true = true then G.2 else G.1, n, .inl (upd f i.toNatClampNeg (vp_nar .char x)))) = mkW ad G (h.set a (.inl (true, n, upd f i.toNatClampNeg (vp_nar .char x)))) := by
        rw [← mkW_set C.2.1.1 hcell]
        simp only [trC]
      have hP : va_P D vwCl (mkW ad G (h.set a (.inl (true, n, upd f i.toNatClampNeg (vp_nar .char x))))) H1 := by rw [← hew]; exact hP
      have hD : va_D A (mkW ad G (h.set a (.inl (true, n, upd f i.toNatClampNeg (vp_nar .char x))))) := by rw [← hew]; exact hD
      exact hk _ _ _ _ hX.2 l D G p e s m args below meth c A ad0 ad H1 locs1 lsA ⟨C.1, ⟨by rw [List.length_set]; exact C.2.1.1, hP, hD, hS⟩, C.2.2⟩
    · exact hX.elim
def xAlen (nx : Nat) : XI := fun Q k ls st h => match st with
  | .ref a :: r => match h[a]? with
    | some (.inl (_, n, _)) => k nx ls (.int (nI n) :: r) h
    | _ => False
  | _ => False
theorem snd_alen {M : MI} {pc : Nat} (hd : decode (mC M) pc = .ok (.arraylength, 1)) : Snd M pc (xAlen (pc + 1)) := by
  intro Q ce sl k hce hsl hk ls st h hX
  match st, hX with
  | .ref a :: r, hX =>
    simp only [xAlen] at hX
    split at hX
    · next b n f hcell =>
      intro l D G p e s m args below meth c A ad0 ad H locs lsA C
      cases b with
      | false => exact va_alen C.1.1 C.1.2.1 C.1.2.2.2.2.2.2.2.2.2.2.1 C.2.1.2.1 a 0 (mkW_get C.2.1.1 hcell) (ty := .int) rfl rfl hd (hk _ _ _ _ hX l D G p e s m args below meth c A ad0 ad H locs lsA C)
      | true => exact va_alen C.1.1 C.1.2.1 C.1.2.2.2.2.2.2.2.2.2.2.1 C.2.1.2.1 a 1 (mkW_get C.2.1.1 hcell) (ty := .char) rfl rfl hd (hk _ _ _ _ hX l D G p e s m args below meth c A ad0 ad H locs lsA C)
    · exact hX.elim
theorem qcd_ret {M : MI} {D : va_G} {G : ClassId × ClassId} {p : Program} {s : State} {m : MethodId} {args : Array Value} {meth : Method} {c : Code} {A : Nat → Prop} {ad0 ad : List Nat} {H : Heap} {locs : List Loc} {lsA : Array Slot} {ls : LSt} {h : SH} {Q : Option Value → SH → Prop} {v : Option Value} (C : Cw M D G p s m args meth c A ad0 ad H locs lsA ls h) (hq : Q v h) {t : State} (ht : t.heap = H) : QcD M D G A ad0 Q args s (.returned (v.map (tr ad))) t := by
  obtain ⟨⟨-, -, -, -, -, -, -, -, -, -, -, x, rfl, hx⟩, ⟨hl, hP, hD, hS⟩, -⟩ := C
  exact ⟨⟨v, x, h, rfl, hq, hx, hl, by rw [ht]; exact hP, hD⟩, hS.F ht⟩
def xRet : XI := fun Q k ls st h => match st with
  | [.int v] => Q (some (.int v)) h
  | _ => False
theorem snd_iret {M : MI} {pc : Nat} (hd : decode (mC M) pc = .ok (.ireturn, 1)) (hr : mR M = some .int) : Snd M pc xRet := by
  intro Q ce sl k hce hsl hk ls st h hX
  match st, hX with
  | [.int v], hX =>
    intro l D G p e s m args below meth c A ad0 ad H locs lsA C
    refine W.widen hce hsl ?_
    exact W.iret C.1.1 C.1.2.1 (C.1.2.2.1.trans hr) (fun t ht _ => qcd_ret (v := some (.int v)) C hX ht) C.2.1.2.2.2.2.2 hd C.1.2.2.2.2.2.2.2.1
def xRetZ : XI := fun Q k ls st h => match st with
  | [.int v] => (v = 0 ∨ v = 1) ∧ Q (some (.int v)) h
  | _ => False
theorem snd_zret {M : MI} {pc : Nat} (hd : decode (mC M) pc = .ok (.ireturn, 1)) (hr : mR M = some .boolean) : Snd M pc xRetZ := by
  intro Q ce sl k hce hsl hk ls st h hX
  match st, hX with
  | [.int v], hX =>
    intro l D G p e s m args below meth c A ad0 ad H locs lsA C
    refine W.widen hce hsl ?_
    exact W.zret C.1.1 C.1.2.1 (C.1.2.2.1.trans hr) (by rcases hX.1 with rfl | rfl <;> rfl) (fun t ht _ => qcd_ret (v := some (.int v)) C hX.2 ht) C.2.1.2.2.2.2.2 hd C.1.2.2.2.2.2.2.2.1
def xRetV : XI := fun Q k ls st h => match st with
  | [] => Q none h
  | _ => False
theorem snd_vret {M : MI} {pc : Nat} (hd : decode (mC M) pc = .ok (.return_, 1)) (hr : mR M = none) : Snd M pc xRetV := by
  intro Q ce sl k hce hsl hk ls st h hX
  match st, hX with
  | [], hX =>
    intro l D G p e s m args below meth c A ad0 ad H locs lsA C
    refine W.widen hce hsl ?_
    exact W.vret C.1.1 C.1.2.1 (C.1.2.2.1.trans hr) (fun t ht _ => qcd_ret (v := none) C hX ht) C.2.1.2.2.2.2.2 hd C.1.2.2.2.2.2.2.2.1
