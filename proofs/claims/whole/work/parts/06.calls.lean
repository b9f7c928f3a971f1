
/-! ===== calls: a callee's contract, used over the whole world ===== -/
def popN : Nat → List Value → List Value → Option (List Value × List Value)
  | 0, st, acc => some (acc, st)
  | _ + 1, [], _ => none
  | n + 1, v :: st, acc => popN n st (v :: acc)
theorem popN_spec : ∀ {n : Nat} {st acc as r : List Value}, popN n st acc = some (as, r) → ∃ pre, st = pre.reverse ++ r ∧ as = pre ++ acc ∧ pre.length = n
  | 0, st, acc, as, r, h => by
    simp only [popN, Option.some.injEq, Prod.mk.injEq] at h
    exact ⟨[], by simp [h.2], by simp [h.1], rfl⟩
  | n + 1, [], acc, as, r, h => by simp [popN] at h
  | n + 1, v :: st, acc, as, r, h => by
    obtain ⟨pre, h1, h2, h3⟩ := popN_spec (n := n) h
    exact ⟨pre ++ [v], by simp [h1], by simp [h2], by simp [h3]⟩
def cs : List Value → Nat
  | [] => 0
  | v :: r => v.category + cs r
theorem cs_tr (ad : List Nat) : ∀ r : List Value, ((r.map (tr ad)).map fun v => v.category).sum = cs r
  | [] => rfl
  | v :: r => by
    have := cs_tr ad r
    simp only [List.map_cons, List.sum_cons, cs, tr_cat, this]
def kont (k : KT) (nx : Nat) (ls : LSt) (r : List Value) : Option Value → SH → Prop := fun v h' => k nx ls (v.toList ++ r) h'
theorem kont_some (k : KT) (nx : Nat) (ls : LSt) (r : List Value) (v : Value) (h : SH) : kont k nx ls r (some v) h = k nx ls (v :: r) h := rfl
theorem kont_none (k : KT) (nx : Nat) (ls : LSt) (r : List Value) (h : SH) : kont k nx ls r none h = k nx ls r h := rfl
theorem pcd_blind {D : va_G} {G : ClassId × ClassId} {ad : List Nat} {h : SH} {As : List Value} {sz : Nat} : FrameBlind (PcD D G ad h As sz) := fun a U g mk q => by
  obtain ⟨q0, q1, q2, q3, q4, q5⟩ := q
  exact ⟨q0, q1, q2, va_K.moved (u := U) (U := U.calling g mk a) (Vm.Alike.refl U.vm) q3, q4, NTB_same (s := U) (U := U.calling g mk a) rfl q5⟩
theorem pcd_pre {M : MI} {D : va_G} {G : ClassId × ClassId} {p : Program} {s : State} {m : MethodId} {args : Array Value} {meth : Method} {c : Code} {A : Nat → Prop} {ad0 ad : List Nat} {H : Heap} {locs : List Loc} {lsA : Array Slot} {ls : LSt} {h : SH} (C : Cw M D G p s m args meth c A ad0 ad H locs lsA ls h) (As : List Value) : ∀ U : State, U.heap = H → s.WarmedH U.vm → PcD D G ad h As H.size (As.map (tr ad)).toArray U := fun U hU hW => by
  obtain ⟨⟨-, -, -, -, -, -, ⟨hN, -⟩, -, -, -, hK, -⟩, ⟨-, hP, hD, -⟩, -⟩ := C
  exact ⟨rfl, by rw [hU], by rw [hU]; exact hP, va_K.moved hW.alike hK, hD.weaken (fun _ _ _ _ => trivial), NTB_warm hW hN⟩
theorem cw_free {M : MI} {D : va_G} {G : ClassId × ClassId} {p : Program} {s : State} {m : MethodId} {args : Array Value} {meth : Method} {c : Code} {A : Nat → Prop} {ad0 ad : List Nat} {H : Heap} {locs : List Loc} {lsA : Array Slot} {ls : LSt} {h : SH} (C : Cw M D G p s m args meth c A ad0 ad H locs lsA ls h) : ∀ q, va_A (mkW ad G h) H.size q → A q := by
  obtain ⟨⟨-, -, -, -, -, -, -, -, -, hA, -, -⟩, ⟨-, -, hD, hS⟩, -⟩ := C
  intro q hq
  rcases hq with ⟨k, e, hk⟩ | hq
  · exact hD.2 k _ hk
  · exact hA q (Nat.le_trans hS.1 hq)
/-- behind a call -/
theorem W_callD {p : Program} {l : Launch} {e : Env} {R : Room} {s : State} {m : MethodId} {args : Array Value} {below : List Frame} {meth : Method} {c : Code} {H : Heap} {locs : List Loc} {ce sl mc ms : Nat} {Qw : State → Prop} {pc : Nat} {lsA : Array Slot} {st0 rest : List Value} {a : Array Value} {A A1 : Nat → Prop} {M' : MI} {D : va_G} {G : ClassId × ClassId} {ad : List Nat} {Q' : Option Value → SH → Prop}
    (hr : va_Run p l e R s m args below meth c H locs ce sl mc ms (F0 m pc lsA st0) rest (QcD M' D G A1 ad Q' a) A1) (hS : va_S A s.heap H locs) (hA : ∀ q, A1 q → A q)
    (kk : ∀ (v : Option Value) (ad' : List Nat) (h' : SH) (H1 : Heap) (locs1 : List Loc), Q' v h' → (mMc M' = 0 → ad' = []) → (ad ++ ad').length = h'.length → va_P D vwCl (mkW (ad ++ ad') G h') H1 → va_D A (mkW (ad ++ ad') G h') → va_S A s.heap H1 locs1 → W p l e R s m args below meth c H1 locs1 (ce + mc) (sl + ms) Qw (F0 m (pc + 3) lsA ((v.map (tr (ad ++ ad'))).toList ++ rest))) : W p l e R s m args below meth c H locs ce sl Qw (F0 m pc lsA st0) := by
  intro T hT X
  obtain ⟨v, st₀, t, T', L, h0, X', hL, e1, e2, ⟨⟨v2, ad', h', hv, hq, hz, hl, hP, hD⟩, hf1, hf2⟩, st⟩ := hr T hT X
  cases hv
  rw [h0] at hf1 hf2
  obtain ⟨t2, a1, b1⟩ := kk v2 ad' h' T'.heap (locs ++ L) hq hz hl (by rw [e1]; exact hP) (hD.weaken (fun _ _ _ q => hA _ q)) ⟨Nat.le_trans hS.1 (by rw [e1]; exact hf1), fun q h1 h2 => by rw [e1, hf2 q (Nat.lt_of_lt_of_le h1 hS.1) (fun z => h2 (hA q z))]; exact hS.2.1 q h1 h2, fun q hq => by
    rcases List.mem_append.mp hq with h | h
    · exact hS.2.2 q h
    · exact hA _ (hL q h)⟩ T' rfl X'
  exact ⟨t2, st t2 a1, b1⟩
/-- the facts of a call: the callee's words, its parameters, its room -/
abbrev CF (M M' : MI) (n : Nat) : Prop := (Cond.initialized (mY M').cls ∈ TB) ∧ (Cond.code (mY M') (mC M') (mN M') (mR M') ∈ TB) ∧ ((mY M').cls ≠ "java/lang/invoke/MethodHandle" ∧ (mY M').cls ≠ "java/lang/invoke/VarHandle" ∧ (parseMethodDescriptor (mY M').desc).map (fun d => d.parameters.length) = some n) ∧ (mD M' + 1 ≤ mD M ∧ mN M' ≤ 21)
theorem tb_3 {a b c : Cond} (ha : a ∈ TB) (hb : b ∈ TB) (hc : c ∈ TB) : ∀ w ∈ ([a, b, c] : List Cond), w ∈ TB := List.forall_mem_cons.mpr ⟨ha, List.forall_mem_cons.mpr ⟨hb, List.forall_mem_cons.mpr ⟨hc, fun _ h => absurd h List.not_mem_nil⟩⟩⟩
theorem tb_4 {a b c d : Cond} (ha : a ∈ TB) (hb : b ∈ TB) (hc : c ∈ TB) (hd : d ∈ TB) : ∀ w ∈ ([a, b, c, d] : List Cond), w ∈ TB := List.forall_mem_cons.mpr ⟨ha, tb_3 hb hc hd⟩
theorem gi_app {big a b : List Cond} (ha : GoodIn big a) (hb : GoodIn big b) : GoodIn big (a ++ b) := fun w h => (List.mem_append.mp h).elim (ha w) (hb w)
theorem gi_code {M' : MI} (h : Cond.code (mY M') (mC M') (mN M') (mR M') ∈ TB) : GoodIn TB (Cond.code (mY M') (mC M') (mN M') (mR M') :: TB) := gi_of (fun w hw => by
  rcases List.mem_cons.mp hw with rfl | hw
  · exact h
  · exact hw)
theorem cf_room {M M' : MI} (h : mD M' + 1 ≤ mD M ∧ mN M' ≤ 21) : (rmD M').frames + 1 ≤ (rmD M).frames ∧ 8 + (mN M' + 11) + (rmD M').locals ≤ (rmD M).locals := by
  simp only [rmD]
  omega

def xObj (nx : Nat) : XI := fun Q k ls st h => match st with
  | .ref a :: r => cs r ≤ 8 ∧ k nx ls r h
  | _ => False
theorem snd_obj {M : MI} {pc idx : Nat} (hd : decode (mC M) pc = .ok (.invokespecial idx, 3)) (hl : Cond.methodLink (mY M).cls idx objectInit ∈ TB) (hi : Cond.instanceMethod objectInit ∈ TB) (hc : Cond.code objectInit ⟨#[0xb1]⟩ 1 none ∈ TB) (hD : 1 ≤ mD M) : Snd M pc (xObj (pc + 3)) := by
  intro Q ce sl k hce hsl hk ls st h hX
  match st, hX with
  | .ref a :: r, hX =>
    intro l D G p e s m args below meth c A ad0 ad H locs lsA C
    have hr := lv_room (m := m) (pc := pc) (ls := lsA) (rest := (Value.ref a :: r).map (tr ad)) (st := r.map (tr ad)) (by rw [cs_tr]; exact hX.1)
    exact W.objInit C.1.1 C.1.2.1 C.1.2.2.2.2.1 (C.1.2.2.2.2.2.1 _ hl) (C.1.2.2.2.2.2.1 _ hi) (C.1.2.2.2.2.2.1 _ hc) rfl (C.2.2.1.trans C.1.2.2.2.1.symm) rfl hd hD (by simp only [rmD]; omega) (hk _ _ _ _ hX.2 l D G p e s m args below meth c A ad0 ad H locs lsA C)

def xMmax (nx : Nat) : XI := fun Q k ls st h => match st with
  | .int y :: .int x :: r => cs r ≤ 8 ∧ k nx ls (.int (if x < y then y else x) :: r) h
  | _ => False
theorem snd_mmax {M : MI} {pc idx : Nat} (hd : decode (mC M) pc = .ok (.invokestatic idx, 3)) (hl : Cond.methodLink (mY M).cls idx Lib.Math.max.name ∈ TB) (hs : Cond.static Lib.Math.max.name ∈ TB) (hi : Cond.initialized "java/lang/Math" ∈ TB) (hc : Cond.code Lib.Math.max.name Lib.Math.max.code 2 (some .int) ∈ TB) (hD : 1 ≤ mD M) : Snd M pc (xMmax (pc + 3)) := by
  intro Q ce sl k hce hsl hk ls st h hX
  match st, hX with
  | .int y :: .int x :: r, hX =>
    intro l D G p e s m args below meth c A ad0 ad H locs lsA C
    have h8 := hX.1
    exact va_mmax C.1.1 C.1.2.1 (C.1.2.2.2.1.trans C.2.2.1.symm) C.1.2.2.2.2.1 (C.1.2.2.2.2.2.1 _ hl) (C.1.2.2.2.2.2.1 _ hs) (C.1.2.2.2.2.2.1 _ hi) (C.1.2.2.2.2.2.1 _ hc) hD (by rw [cs_tr]; simp only [rmD]; omega) hce hsl hd (hk _ _ _ _ hX.2 l D G p e s m args below meth c A ad0 ad H locs lsA C)
def xMmin (nx : Nat) : XI := fun Q k ls st h => match st with
  | .int y :: .int x :: r => cs r ≤ 8 ∧ k nx ls (.int (if y < x then y else x) :: r) h
  | _ => False
theorem snd_mmin {M : MI} {pc idx : Nat} (hd : decode (mC M) pc = .ok (.invokestatic idx, 3)) (hl : Cond.methodLink (mY M).cls idx Lib.Math.min.name ∈ TB) (hs : Cond.static Lib.Math.min.name ∈ TB) (hi : Cond.initialized "java/lang/Math" ∈ TB) (hc : Cond.code Lib.Math.min.name Lib.Math.min.code 2 (some .int) ∈ TB) (hD : 1 ≤ mD M) : Snd M pc (xMmin (pc + 3)) := by
  intro Q ce sl k hce hsl hk ls st h hX
  match st, hX with
  | .int y :: .int x :: r, hX =>
    intro l D G p e s m args below meth c A ad0 ad H locs lsA C
    have h8 := hX.1
    exact va_mmin C.1.1 C.1.2.1 (C.1.2.2.2.1.trans C.2.2.1.symm) C.1.2.2.2.2.1 (C.1.2.2.2.2.2.1 _ hl) (C.1.2.2.2.2.2.1 _ hs) (C.1.2.2.2.2.2.1 _ hi) (C.1.2.2.2.2.2.1 _ hc) hD (by rw [cs_tr]; simp only [rmD]; omega) hce hsl hd (hk _ _ _ _ hX.2 l D G p e s m args below meth c A ad0 ad H locs lsA C)
def xCallS (M' : MI) (n nx : Nat) : XI := fun Q k ls st h => match popN n st [] with
  | some (as, r) => cs r ≤ 8 ∧ Spc M' as h (kont k nx ls r)
  | none => False
def xCallV (M' : MI) (ci n nx : Nat) : XI := fun Q k ls st h => match popN (n + 1) st [] with
  | some (.ref b :: as, r) => cs r ≤ 8 ∧ match h[b]? with
    | some (.inr (cj, _)) => cj = ci ∧ Spc M' (.ref b :: as) h (kont k nx ls r)
    | _ => False
  | _ => False
def xCallI (M' : MI) (n nx : Nat) : XI := fun Q k ls st h => match popN (n + 1) st [] with
  | some (.ref b :: as, r) => cs r ≤ 8 ∧ Spc M' (.ref b :: as) h (kont k nx ls r)
  | _ => False
theorem snd_callS {M M' : MI} {pc idx n : Nat} (hd : decode (mC M) pc = .ok (.invokestatic idx, 3)) (hl1 : Cond.methodLink (mY M).cls idx (mY M') ∈ TB) (hl2 : Cond.static (mY M') ∈ TB) (hcf : CF M M' n) (h0 : mMc M' = 0 ∧ mMs M' = 0) : Snd M pc (xCallS M' n (pc + 3)) := by
  intro Q ce sl k hce hsl hk ls st h hX
  have hX : (match popN n st [] with | some (as, r) => cs r ≤ 8 ∧ Spc M' as h (kont k (pc + 3) ls r) | none => False) := hX
  split at hX
  · next as r hpop =>
    obtain ⟨hcs, hsp⟩ := hX
    obtain ⟨pre, hst, e1, hpl⟩ := popN_spec hpop
    rw [List.append_nil] at e1
    subst e1
    intro l D G p e s m args below meth c A ad0 ad H locs lsA C
    have hx := C.1.1
    have hstk : st.map (tr ad) = (as.map (tr ad)).reverse ++ r.map (tr ad) := by rw [hst]; simp [tr]
    have hfr := cw_free C
    have run : va_Run p l e (rmD M) s m args below meth c H locs ce sl (mMc M') (mMs M') (F0 m pc lsA (st.map (tr ad))) (r.map (tr ad)) (QcD M' D G (va_A (mkW ad G h) H.size) ad (kont k (pc + 3) ls r) ((as).map (tr ad)).toArray) (va_A (mkW ad G h) H.size) :=
      va_runS ⟨C.1.1, C.1.2.1, C.1.2.2.2.1, C.1.2.2.2.2.1, C.1.2.2.2.2.2.1⟩ (hsp l D G ad H.size C.2.1.1) (va_cwS n C.1.2.2.2.2.2.1 (gi_app (gi_of (tb_3 hl1 hl2 hcf.1)) (gi_code hcf.2.1)) rfl rfl rfl hcf.2.2.1 (cf_room hcf.2.2.2)) ⟨pcd_blind, pcd_pre C as⟩ rfl (by simpa using hpl) C.2.2.1 hstk (lv_room (by rw [cs_tr]; exact hcs)) hd (by rw [h0.1, h0.2]; exact ⟨hce, hsl⟩)
    refine W_callD run C.2.1.2.2.2 hfr (fun v ad' h' H1 locs1 hq hz hl hP hD hS => ?_)
    have hz := hz h0.1
    subst hz
    simp only [List.append_nil] at hl hP hD ⊢
    rw [h0.1, h0.2]
    have hew : (v.map (tr ad)).toList ++ r.map (tr ad) = (v.toList ++ r).map (tr ad) := by cases v <;> simp
    rw [hew]
    exact hk _ _ _ _ hq l D G p e s m args below meth c A ad0 ad H1 locs1 lsA ⟨C.1, ⟨hl, hP, hD, hS⟩, C.2.2⟩
  · exact hX.elim
theorem snd_callSN {M M' : MI} {pc idx n : Nat} {host : String} (hd : decode (mC M) pc = .ok (.invokestatic idx, 3)) (hl1 : Cond.methodLinkNest (mY M).cls idx (mY M') host ∈ NTB) (hl2 : Cond.static (mY M') ∈ TB) (hcf : CF M M' n) (h0 : mMc M' = 0 ∧ mMs M' = 0) : Snd M pc (xCallS M' n (pc + 3)) := by
  intro Q ce sl k hce hsl hk ls st h hX
  have hX : (match popN n st [] with | some (as, r) => cs r ≤ 8 ∧ Spc M' as h (kont k (pc + 3) ls r) | none => False) := hX
  split at hX
  · next as r hpop =>
    obtain ⟨hcs, hsp⟩ := hX
    obtain ⟨pre, hst, e1, hpl⟩ := popN_spec hpop
    rw [List.append_nil] at e1
    subst e1
    intro l D G p e s m args below meth c A ad0 ad H locs lsA C
    have hx := C.1.1
    have hstk : st.map (tr ad) = (as.map (tr ad)).reverse ++ r.map (tr ad) := by rw [hst]; simp [tr]
    have hfr := cw_free C
    have run : va_Run p l e (rmD M) s m args below meth c H locs ce sl (mMc M') (mMs M') (F0 m pc lsA (st.map (tr ad))) (r.map (tr ad)) (QcD M' D G (va_A (mkW ad G h) H.size) ad (kont k (pc + 3) ls r) ((as).map (tr ad)).toArray) (va_A (mkW ad G h) H.size) :=
      va_runSN ⟨C.1.1, C.1.2.1, C.1.2.2.2.1, C.1.2.2.2.2.1, C.1.2.2.2.2.2.1⟩ (hsp l D G ad H.size C.2.1.1) ⟨va_cnB n C.1.2.2.2.2.2.1 (gi_code hcf.2.1) rfl rfl rfl (C.1.2.2.2.2.2.2.1.1 _ hl1) (C.1.2.2.2.2.2.1 _ hcf.1) hcf.2.2.1 (cf_room hcf.2.2.2), C.1.2.2.2.2.2.1 _ hl2, trivial⟩ ⟨pcd_blind, pcd_pre C as⟩ rfl (by simpa using hpl) C.2.2.1 hstk (lv_room (by rw [cs_tr]; exact hcs)) hd (by rw [h0.1, h0.2]; exact ⟨hce, hsl⟩)
    refine W_callD run C.2.1.2.2.2 hfr (fun v ad' h' H1 locs1 hq hz hl hP hD hS => ?_)
    have hz := hz h0.1
    subst hz
    simp only [List.append_nil] at hl hP hD ⊢
    rw [h0.1, h0.2]
    have hew : (v.map (tr ad)).toList ++ r.map (tr ad) = (v.toList ++ r).map (tr ad) := by cases v <;> simp
    rw [hew]
    exact hk _ _ _ _ hq l D G p e s m args below meth c A ad0 ad H1 locs1 lsA ⟨C.1, ⟨hl, hP, hD, hS⟩, C.2.2⟩
  · exact hX.elim
theorem snd_callV {M M' : MI} {pc idx n : Nat} {ci N : Nat} {T0 : u_T} (hd : decode (mC M) pc = .ok (.invokevirtual idx, 3)) (hc : vwCl[ci]? = some ((mY M').cls, T0, N)) (hl1 : Cond.methodLink (mY M).cls idx (mY M') ∈ TB) (hl2 : Cond.instanceMethod (mY M') ∈ TB) (hl3 : Cond.selects (mY M').cls (mY M') (mY M') ∈ TB) (hcf : CF M M' n) (h0 : mMc M' = 0 ∧ mMs M' = 0) : Snd M pc (xCallV M' ci n (pc + 3)) := by
  intro Q ce sl k hce hsl hk ls st h hX
  simp only [xCallV] at hX
  split at hX
  · next b as r hpop =>
    obtain ⟨hcs, hX⟩ := hX
    split at hX
    case h_2 => exact hX.elim
    next cj fs hcell =>
    obtain ⟨rfl, hsp⟩ := hX
    obtain ⟨pre, hst, e1, hpl⟩ := popN_spec hpop
    rw [List.append_nil] at e1
    subst e1
    intro l D G p e s m args below meth c A ad0 ad H locs lsA C
    have hx := C.1.1
    have hstk : st.map (tr ad) = (as.map (tr ad)).reverse ++ .ref (ad.getD b 0) :: r.map (tr ad) := by rw [hst]; simp [tr]
    have hfr := cw_free C
    have run : va_Run p l e (rmD M) s m args below meth c H locs ce sl (mMc M') (mMs M') (F0 m pc lsA (st.map (tr ad))) (r.map (tr ad)) (QcD M' D G (va_A (mkW ad G h) H.size) ad (kont k (pc + 3) ls r) ((.ref b :: as).map (tr ad)).toArray) (va_A (mkW ad G h) H.size) :=
      va_runV ⟨C.1.1, C.1.2.1, C.1.2.2.2.1, C.1.2.2.2.2.1, C.1.2.2.2.2.2.1⟩ (hsp l D G ad H.size C.2.1.1) (cwV n C.1.2.2.2.2.2.1 (gi_app (gi_of (tb_4 hl1 hl2 hl3 hcf.1)) (gi_code hcf.2.1)) rfl rfl rfl ⟨rfl, hcf.2.2.1⟩ (cf_room hcf.2.2.2)) ⟨pcd_blind, va_recv C.1.2.2.2.2.2.2.2.2.2.2.1 C.2.1.2.1 hc (mkW_get C.2.1.1 hcell), pcd_pre C (.ref b :: as)⟩ rfl (by simpa using hpl) C.2.2.1 hstk (lv_room (by rw [cs_tr]; exact hcs)) hd (by rw [h0.1, h0.2]; exact ⟨hce, hsl⟩)
    refine W_callD run C.2.1.2.2.2 hfr (fun v ad' h' H1 locs1 hq hz hl hP hD hS => ?_)
    have hz := hz h0.1
    subst hz
    simp only [List.append_nil] at hl hP hD ⊢
    rw [h0.1, h0.2]
    have hew : (v.map (tr ad)).toList ++ r.map (tr ad) = (v.toList ++ r).map (tr ad) := by cases v <;> simp
    rw [hew]
    exact hk _ _ _ _ hq l D G p e s m args below meth c A ad0 ad H1 locs1 lsA ⟨C.1, ⟨hl, hP, hD, hS⟩, C.2.2⟩
  · exact hX.elim
theorem snd_callI {M M' : MI} {pc idx n : Nat} (hd : decode (mC M) pc = .ok (.invokespecial idx, 3)) (hl1 : Cond.methodLink (mY M).cls idx (mY M') ∈ TB) (hl2 : Cond.instanceMethod (mY M') ∈ TB) (hr : mR M' = none) (hin : (mY M').name = "<init>") (hcf : CF M M' n) (h0 : mMc M' = 0 ∧ mMs M' = 0) : Snd M pc (xCallI M' n (pc + 3)) := by
  intro Q ce sl k hce hsl hk ls st h hX
  simp only [xCallI] at hX
  split at hX
  · next b as r hpop =>
    obtain ⟨hcs, hsp⟩ := hX
    obtain ⟨pre, hst, e1, hpl⟩ := popN_spec hpop
    rw [List.append_nil] at e1
    subst e1
    intro l D G p e s m args below meth c A ad0 ad H locs lsA C
    have hx := C.1.1
    have hstk : st.map (tr ad) = (as.map (tr ad)).reverse ++ .ref (ad.getD b 0) :: r.map (tr ad) := by rw [hst]; simp [tr]
    have hfr := cw_free C
    have run : va_Run p l e (rmD M) s m args below meth c H locs ce sl (mMc M') (mMs M') (F0 m pc lsA (st.map (tr ad))) (r.map (tr ad)) (QcD M' D G (va_A (mkW ad G h) H.size) ad (kont k (pc + 3) ls r) ((.ref b :: as).map (tr ad)).toArray) (va_A (mkW ad G h) H.size) :=
      va_runI ⟨C.1.1, C.1.2.1, C.1.2.2.2.1, C.1.2.2.2.2.1, C.1.2.2.2.2.2.1⟩ (hsp l D G ad H.size C.2.1.1) (cwI n C.1.2.2.2.2.2.1 (gi_code hcf.2.1) (by rw [hr]) rfl rfl (C.1.2.2.2.2.2.1 _ hcf.1) (C.1.2.2.2.2.2.1 _ hl1) (C.1.2.2.2.2.2.1 _ hl2) hin hcf.2.2.1 (cf_room hcf.2.2.2)) ⟨pcd_blind, pcd_pre C (.ref b :: as)⟩ rfl (by simpa using hpl) C.2.2.1 hstk (lv_room (by rw [cs_tr]; exact hcs)) hd (by rw [h0.1, h0.2]; exact ⟨hce, hsl⟩)
    refine W_callD run C.2.1.2.2.2 hfr (fun v ad' h' H1 locs1 hq hz hl hP hD hS => ?_)
    have hz := hz h0.1
    subst hz
    simp only [List.append_nil] at hl hP hD ⊢
    rw [h0.1, h0.2]
    have hew : (v.map (tr ad)).toList ++ r.map (tr ad) = (v.toList ++ r).map (tr ad) := by cases v <;> simp
    rw [hew]
    exact hk _ _ _ _ hq l D G p e s m args below meth c A ad0 ad H1 locs1 lsA ⟨C.1, ⟨hl, hP, hD, hS⟩, C.2.2⟩
  · exact hX.elim
theorem snd_callIN {M M' : MI} {pc idx n : Nat} {host : String} (hd : decode (mC M) pc = .ok (.invokespecial idx, 3)) (hl1 : Cond.methodLinkNest (mY M).cls idx (mY M') host ∈ NTB) (hl2 : Cond.instanceMethod (mY M') ∈ TB) (hr : mR M' = none) (hin : (mY M').name = "<init>") (hcf : CF M M' n) (h0 : mMc M' = 0 ∧ mMs M' = 0) : Snd M pc (xCallI M' n (pc + 3)) := by
  intro Q ce sl k hce hsl hk ls st h hX
  simp only [xCallI] at hX
  split at hX
  · next b as r hpop =>
    obtain ⟨hcs, hsp⟩ := hX
    obtain ⟨pre, hst, e1, hpl⟩ := popN_spec hpop
    rw [List.append_nil] at e1
    subst e1
    intro l D G p e s m args below meth c A ad0 ad H locs lsA C
    have hx := C.1.1
    have hstk : st.map (tr ad) = (as.map (tr ad)).reverse ++ .ref (ad.getD b 0) :: r.map (tr ad) := by rw [hst]; simp [tr]
    have hfr := cw_free C
    have run : va_Run p l e (rmD M) s m args below meth c H locs ce sl (mMc M') (mMs M') (F0 m pc lsA (st.map (tr ad))) (r.map (tr ad)) (QcD M' D G (va_A (mkW ad G h) H.size) ad (kont k (pc + 3) ls r) ((.ref b :: as).map (tr ad)).toArray) (va_A (mkW ad G h) H.size) :=
      va_runIN ⟨C.1.1, C.1.2.1, C.1.2.2.2.1, C.1.2.2.2.2.1, C.1.2.2.2.2.2.1⟩ (hsp l D G ad H.size C.2.1.1) ⟨va_cnB n C.1.2.2.2.2.2.1 (gi_code hcf.2.1) (by rw [hr]) rfl rfl (C.1.2.2.2.2.2.2.1.1 _ hl1) (C.1.2.2.2.2.2.1 _ hcf.1) hcf.2.2.1 (cf_room hcf.2.2.2), hin, C.1.2.2.2.2.2.1 _ hl2⟩ ⟨pcd_blind, pcd_pre C (.ref b :: as)⟩ rfl (by simpa using hpl) C.2.2.1 hstk (lv_room (by rw [cs_tr]; exact hcs)) hd (by rw [h0.1, h0.2]; exact ⟨hce, hsl⟩)
    refine W_callD run C.2.1.2.2.2 hfr (fun v ad' h' H1 locs1 hq hz hl hP hD hS => ?_)
    have hz := hz h0.1
    subst hz
    simp only [List.append_nil] at hl hP hD ⊢
    rw [h0.1, h0.2]
    have hew : (v.map (tr ad)).toList ++ r.map (tr ad) = (v.toList ++ r).map (tr ad) := by cases v <;> simp
    rw [hew]
    exact hk _ _ _ _ hq l D G p e s m args below meth c A ad0 ad H1 locs1 lsA ⟨C.1, ⟨hl, hP, hD, hS⟩, C.2.2⟩
  · exact hX.elim
