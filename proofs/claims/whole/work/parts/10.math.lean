/-! ===== numbers and sets as Nat; what the operations are on nI ===== -/
/-- a without b -/
def an (a b : Nat) : Nat := a ^^^ (a &&& b)
theorem an_tb (a b i : Nat) : (an a b).testBit i = (a.testBit i && !b.testBit i) := by
  simp only [an, Nat.testBit_xor, Nat.testBit_and]
  cases a.testBit i <;> cases b.testBit i <;> rfl
theorem an_lt {a b n : Nat} (h : a < 2 ^ n) : an a b < 2 ^ n := by
  apply Nat.lt_pow_two_of_testBit
  intro i hi
  rw [an_tb, Nat.testBit_lt_two_pow (Nat.lt_of_lt_of_le h (Nat.pow_le_pow_right (by decide) hi)), Bool.false_and]
theorem nI_and (a b : Nat) : nI a &&& nI b = nI (a &&& b) := fa_and a b
theorem nI_or (a b : Nat) : nI a ||| nI b = nI (a ||| b) := fa_or a b
theorem nI_xor (a b : Nat) : nI a ^^^ nI b = nI (a ^^^ b) := fb_xorI a b
theorem bt_nI {a : Nat} {i : Nat} (hi : i < 32) : bt (nI a) i = a.testBit i := by
  show (BitVec.ofNat 32 a).getLsbD i = a.testBit i
  rw [BitVec.getLsbD_ofNat]
  simp [hi]
theorem nI_an (a b : Nat) : nI a &&& (nI b ^^^ (-1)) = nI (an a b) := by
  apply b_ext
  intro i hi
  rw [b_and, b_xor, b_m1 i hi, bt_nI hi, bt_nI hi, bt_nI hi, an_tb]
  cases a.testBit i <;> cases b.testBit i <;> rfl
theorem nI_shl1 {k : Nat} (hk : k < 31) : nI 1 <<< (nI k &&& 31) = nI (2 ^ k) := by
  rw [pk_shlN _ k (s_l k (by omega)) (by rw [Nat.one_mul]; exact Nat.pow_lt_pow_right (by decide) (by omega)), Nat.one_mul]
theorem nI_shl {n k : Nat} (hk : k < 32) (h : n * 2 ^ k < 2 ^ 32) : nI n <<< (nI k &&& 31) = nI (n * 2 ^ k) := pk_shlN _ k (s_l k hk) h
theorem nI_shr {n k : Nat} (hk : k < 32) (h : n < 2 ^ 31) : nI n >>> (nI k &&& 31) = nI (n / 2 ^ k) := pk_shrN h _ k (s_l k hk)
theorem nI_has {s k : Nat} (hs : s < 2 ^ 31) (hk : k < 31) : nI s >>> (nI k &&& 31) &&& nI 1 = nI (s.testBit k).toNat := by
  rw [nI_shr (by omega) hs, nI_and, Nat.and_one_is_mod, Nat.toNat_testBit]
theorem nI_b1 (b : Bool) : (nI b.toNat = nI 1) ↔ b = true := by cases b <;> decide
theorem nI_b0 (b : Bool) : (nI b.toNat = 0) ↔ b = false := by cases b <;> decide
theorem nI_z {n : Nat} (h : n < 2 ^ 31) : (nI n = 0) ↔ n = 0 := by
  rw [show (0 : Int32) = nI 0 from rfl, nI_eq h (by decide)]
theorem nI_01 (b : Bool) : nI b.toNat = 0 ∨ nI b.toNat = 1 := by cases b <;> decide
theorem nI_0z : nI 0 = 0 := rfl
/-- the set of the places below n at which f is -/
def mkb (f : Nat → Bool) : Nat → Nat
  | 0 => 0
  | n + 1 => mkb f n ||| ((f n).toNat * 2 ^ n)
theorem mkb_tb (f : Nat → Bool) : ∀ n i, (mkb f n).testBit i = (decide (i < n) && f i)
  | 0, i => by simp [mkb]
  | n + 1, i => by
    rw [mkb, Nat.testBit_or, mkb_tb f n i]
    by_cases hi : i = n
    · subst hi
      cases h : f i <;> simp
    · have h1 : ((f n).toNat * 2 ^ n).testBit i = false := by
        cases f n
        · simp
        · simp only [Bool.toNat_true, Nat.one_mul, Nat.testBit_two_pow]
          simp; omega
      rw [h1, Bool.or_false]
      congr 1
      simp only [decide_eq_decide]
      omega
theorem mkb_lt (f : Nat → Bool) (n : Nat) : mkb f n < 2 ^ n := by
  apply Nat.lt_pow_two_of_testBit
  intro i hi
  rw [mkb_tb]
  simp; omega
theorem mkb_cong {f g : Nat → Bool} {n : Nat} (h : ∀ i, i < n → f i = g i) : mkb f n = mkb g n := by
  apply Nat.eq_of_testBit_eq
  intro i
  rw [mkb_tb, mkb_tb]
  by_cases hi : i < n
  · rw [h i hi]
  · simp [hi]
def anyb (f : Nat → Bool) : Nat → Bool
  | 0 => false
  | n + 1 => anyb f n || f n
theorem anyb_iff (f : Nat → Bool) : ∀ n, anyb f n = true ↔ ∃ i, i < n ∧ f i = true
  | 0 => by simp [anyb]
  | n + 1 => by
    rw [anyb, Bool.or_eq_true, anyb_iff f n]
    constructor
    · rintro (⟨i, h1, h2⟩ | h)
      · exact ⟨i, by omega, h2⟩
      · exact ⟨n, by omega, h⟩
    · rintro ⟨i, h1, h2⟩
      by_cases hi : i = n
      · subst hi; exact Or.inr h2
      · exact Or.inl ⟨i, by omega, h2⟩
theorem anyb_cong {f g : Nat → Bool} : ∀ {n : Nat}, (∀ i, i < n → f i = g i) → anyb f n = anyb g n
  | 0, _ => rfl
  | n + 1, h => by rw [anyb, anyb, anyb_cong (fun i hi => h i (by omega)), h n (by omega)]
/-- how many of the eight lowest places are in -/
def ones (s : Nat) : Nat := fb_ct (fun i => s.testBit i) 8
theorem ones_le (s : Nat) : ones s ≤ 8 := fb_ct_le _ _
theorem lt256 {s n : Nat} (h : s < 2 ^ n) (hn : n ≤ 8) : s < 256 := Nat.lt_of_lt_of_le h (Nat.pow_le_pow_right (by decide) hn)
theorem lt64 {s n : Nat} (h : s < 2 ^ n) (hn : n ≤ 6) : s < 64 := Nat.lt_of_lt_of_le h (Nat.pow_le_pow_right (by decide) hn)
/-- a method's first locals, one by one -/
theorem lsOf_int (x : Int32) (vs : List Value) (n : Nat) : lsOf (.int x :: vs) n = some (.int x) :: lsOf vs (n - 1) := rfl
theorem lsOf_ref (x : Nat) (vs : List Value) (n : Nat) : lsOf (.ref x :: vs) n = some (.ref x) :: lsOf vs (n - 1) := rfl
theorem lsOf_long (x : Int64) (vs : List Value) (n : Nat) : lsOf (.long x :: vs) n = some (.long x) :: none :: lsOf vs (n - 2) := rfl
theorem lsOf_nil (n : Nat) : lsOf [] n = List.replicate n none := rfl
theorem nX0_init : mN MX0_init = 1 := rfl
theorem nX0_bestSet : mN MX0_bestSet = 9 := rfl
theorem nX0_isFewer : mN MX0_isFewer = 2 := rfl
theorem nX0_fewestThings : mN MX0_fewestThings = 5 := rfl
theorem nX0_servesMost : mN MX0_servesMost = 7 := rfl
theorem nX0_longestRow : mN MX0_longestRow = 8 := rfl
theorem nX0_findLongest : mN MX0_findLongest = 6 := rfl
theorem nX0_nextInRow : mN MX0_nextInRow = 5 := rfl
theorem nX0_canFollow : mN MX0_canFollow = 4 := rfl
theorem nX0_bargains : mN MX0_bargains = 5 := rfl
theorem nX0_isLeftForAnother : mN MX0_isLeftForAnother = 6 := rfl
theorem nX0_leftByTalk : mN MX0_leftByTalk = 3 := rfl
theorem nX0_struckFirst : mN MX0_struckFirst = 3 := rfl
theorem nX0_findLeft : mN MX0_findLeft = 8 := rfl
theorem nX0_strike : mN MX0_strike = 8 := rfl
theorem nX1_init : mN MX1_init = 1 := rfl
theorem nX1_begin : mN MX1_begin = 2 := rfl
theorem nX1_copy : mN MX1_copy = 2 := rfl
theorem nX1_canPutBy : mN MX1_canPutBy = 3 := rfl
theorem nX1_putBy : mN MX1_putBy = 3 := rfl
theorem nX1_takeOut : mN MX1_takeOut = 2 := rfl
theorem nX1_canBeLived : mN MX1_canBeLived = 3 := rfl
theorem nX1_liveLife : mN MX1_liveLife = 4 := rfl
theorem nX1_goBy : mN MX1_goBy = 3 := rfl
theorem nX1_coinsBehind : mN MX1_coinsBehind = 3 := rfl
theorem nX1_goByDraw : mN MX1_goByDraw = 4 := rfl
theorem nX1_putOrTakeOut : mN MX1_putOrTakeOut = 4 := rfl
theorem nX2_init : mN MX2_init = 3 := rfl
theorem nX2_empty : mN MX2_empty = 1 := rfl
theorem nX2_add : mN MX2_add = 2 := rfl
theorem nX2_takeTop : mN MX2_takeTop = 2 := rfl
theorem nX2_dropLowest : mN MX2_dropLowest = 2 := rfl
theorem nX3_init : mN MX3_init = 1 := rfl
theorem nX3_begin : mN MX3_begin = 1 := rfl
theorem nX3_tellRoom : mN MX3_tellRoom = 3 := rfl
theorem nX3_tellThing : mN MX3_tellThing = 4 := rfl
theorem nX3_tellLife : mN MX3_tellLife = 4 := rfl
theorem nX3_tellNeed : mN MX3_tellNeed = 3 := rfl
theorem nX3_isThing : mN MX3_isThing = 2 := rfl
theorem nX3_isLife : mN MX3_isLife = 2 := rfl
theorem nX3_isSetOfThings : mN MX3_isSetOfThings = 2 := rfl
theorem nX3_isSetOfLives : mN MX3_isSetOfLives = 2 := rfl
theorem nX3_allThings : mN MX3_allThings = 1 := rfl
theorem nX3_allLives : mN MX3_allLives = 1 := rfl
theorem nX3_livesThatNeed : mN MX3_livesThatNeed = 4 := rfl
theorem nX3_roomTaken : mN MX3_roomTaken = 6 := rfl
theorem nX3_price : mN MX3_price = 4 := rfl
theorem nX3_canBe : mN MX3_canBe = 5 := rfl
theorem nX3_livesBy : mN MX3_livesBy = 4 := rfl
theorem nX3_gain : mN MX3_gain = 4 := rfl
theorem nX3_chanceOfAll : mN MX3_chanceOfAll = 3 := rfl
theorem nX3_linenOf : mN MX3_linenOf = 4 := rfl
theorem nX4_init : mN MX4_init = 1 := rfl
theorem nX4_firstFault : mN MX4_firstFault = 7 := rfl
theorem nX4_readNumbers : mN MX4_readNumbers = 9 := rfl
theorem nX4_tellItem : mN MX4_tellItem = 6 := rfl
theorem nX4_figure : mN MX4_figure = 4 := rfl
theorem nX4_letter : mN MX4_letter = 3 := rfl
theorem nX5_init : mN MX5_init = 5 := rfl
theorem nX5_write : mN MX5_write = 2 := rfl
theorem nX5_wipe : mN MX5_wipe = 2 := rfl
theorem nX5_fault : mN MX5_fault = 1 := rfl
theorem nX5_lay : mN MX5_lay = 2 := rfl
theorem nX5_thing : mN MX5_thing = 3 := rfl
theorem nX5_life : mN MX5_life = 3 := rfl
theorem nX5_room : mN MX5_room = 1 := rfl
theorem nX5_worth : mN MX5_worth = 3 := rfl
theorem nX5_put : mN MX5_put = 2 := rfl
theorem nX5_out : mN MX5_out = 2 := rfl
theorem nX5_live : mN MX5_live = 2 := rfl
theorem nX5_pass : mN MX5_pass = 2 := rfl
theorem nX5_undo : mN MX5_undo = 1 := rfl
theorem nX5_best : mN MX5_best = 4 := rfl
theorem nX5_cover : mN MX5_cover = 4 := rfl
theorem nX5_serves : mN MX5_serves = 1 := rfl
theorem nX5_row : mN MX5_row = 2 := rfl
theorem nX5_bargain : mN MX5_bargain = 1 := rfl
theorem nX5_talk : mN MX5_talk = 3 := rfl
theorem nX5_see : mN MX5_see = 3 := rfl
theorem nX5_forget : mN MX5_forget = 2 := rfl
theorem nX5_meant : mN MX5_meant = 4 := rfl
theorem nX5_moths : mN MX5_moths = 5 := rfl
theorem nX5_year : mN MX5_year = 5 := rfl
theorem nX5_keep : mN MX5_keep = 1 := rfl
theorem nX5_back : mN MX5_back = 1 := rfl
theorem nX5_count : mN MX5_count = 2 := rfl
theorem nX5_roomLeft : mN MX5_roomLeft = 1 := rfl
theorem nX5_worthPart : mN MX5_worthPart = 3 := rfl
theorem nX5_chanceBehindMoths : mN MX5_chanceBehindMoths = 7 := rfl
theorem nX5_draw : mN MX5_draw = 4 := rfl
theorem nX5_isPart : mN MX5_isPart = 1 := rfl
theorem nX5_bit : mN MX5_bit = 1 := rfl
theorem nX5_has : mN MX5_has = 2 := rfl
theorem nX5_at : mN MX5_at = 2 := rfl
theorem nX5_store : mN MX5_store = 3 := rfl
theorem nX5_power : mN MX5_power = 4 := rfl
theorem nX5_lowestTerms : mN MX5_lowestTerms = 4 := rfl
theorem nX5_commonDivisor : mN MX5_commonDivisor = 6 := rfl
theorem nX6_init : mN MX6_init = 1 := rfl
theorem nX6_in : mN MX6_in = 6 := rfl
theorem nX6_has : mN MX6_has = 2 := rfl
theorem nX6_ones : mN MX6_ones = 3 := rfl
theorem nX6_copy : mN MX6_copy = 4 := rfl
theorem nX6_isThing : mN MX6_isThing = 2 := rfl
theorem nX6_isLife : mN MX6_isLife = 2 := rfl
theorem nX6_addsThing : mN MX6_addsThing = 4 := rfl
theorem nX6_addsLife : mN MX6_addsLife = 4 := rfl
theorem nX6_begins : mN MX6_begins = 2 := rfl
theorem nX6_write : mN MX6_write = 2 := rfl
theorem nX6_wipe : mN MX6_wipe = 2 := rfl
theorem nX6_letterAt : mN MX6_letterAt = 2 := rfl
theorem nX6_takesNumber : mN MX6_takesNumber = 5 := rfl
theorem nX6_takesRoom : mN MX6_takesRoom = 2 := rfl
theorem nX6_takesThing : mN MX6_takesThing = 3 := rfl
theorem nX6_takesLife : mN MX6_takesLife = 3 := rfl
theorem nX6_takesNeed : mN MX6_takesNeed = 2 := rfl
theorem nX6_takesItem : mN MX6_takesItem = 2 := rfl
theorem nX6_faultOf : mN MX6_faultOf = 2 := rfl
theorem nX6_fault : mN MX6_fault = 1 := rfl
theorem nX6_lay : mN MX6_lay = 1 := rfl
theorem nX6_roomOf : mN MX6_roomOf = 6 := rfl
theorem nX6_canBy : mN MX6_canBy = 6 := rfl
theorem nX6_livesBy : mN MX6_livesBy = 4 := rfl
theorem nX6_worthOf : mN MX6_worthOf = 4 := rfl
theorem nX6_likelyOfAll : mN MX6_likelyOfAll = 3 := rfl
theorem nX6_partOf : mN MX6_partOf = 7 := rfl
theorem nX6_worthPart : mN MX6_worthPart = 4 := rfl
theorem nX6_canPut : mN MX6_canPut = 3 := rfl
theorem nX6_linenOf : mN MX6_linenOf = 5 := rfl
theorem nX6_canLive : mN MX6_canLive = 3 := rfl
theorem nX6_puts : mN MX6_puts = 3 := rfl
theorem nX6_livesOne : mN MX6_livesOne = 4 := rfl
theorem nX6_passes : mN MX6_passes = 2 := rfl
theorem nX6_neededBy : mN MX6_neededBy = 4 := rfl
theorem nX6_thing : mN MX6_thing = 3 := rfl
theorem nX6_life : mN MX6_life = 3 := rfl
theorem nX6_room : mN MX6_room = 1 := rfl
theorem nX6_isSet : mN MX6_isSet = 2 := rfl
theorem nX6_worth : mN MX6_worth = 3 := rfl
theorem nX6_minds : mN MX6_minds = 2 := rfl
theorem nX6_put : mN MX6_put = 2 := rfl
theorem nX6_out : mN MX6_out = 2 := rfl
theorem nX6_live : mN MX6_live = 2 := rfl
theorem nX6_pass : mN MX6_pass = 3 := rfl
theorem nX6_undo : mN MX6_undo = 1 := rfl
theorem nX6_costOf : mN MX6_costOf = 4 := rfl
theorem nX6_best : mN MX6_best = 8 := rfl
theorem nX6_cover : mN MX6_cover = 6 := rfl
theorem nX6_serves : mN MX6_serves = 4 := rfl
theorem nX6_longestRow : mN MX6_longestRow = 6 := rfl
theorem nX6_row : mN MX6_row = 3 := rfl
theorem nX6_bargain : mN MX6_bargain = 7 := rfl
theorem nX6_talk : mN MX6_talk = 10 := rfl
theorem nX6_see : mN MX6_see = 3 := rfl
theorem nX6_forget : mN MX6_forget = 2 := rfl
theorem nX6_meant : mN MX6_meant = 3 := rfl
theorem nX6_moths : mN MX6_moths = 9 := rfl
theorem nX6_year : mN MX6_year = 10 := rfl
theorem nX6_keep : mN MX6_keep = 1 := rfl
theorem nX6_back : mN MX6_back = 1 := rfl
theorem nX6_count : mN MX6_count = 2 := rfl
theorem nJ6_bitCount_0f7a4 : mN MJ6_bitCount_0f7a4 = 1 := rfl
theorem nI_n0 {n : Nat} (h : n < 2 ^ 31) : (nI n < 0) ↔ False := iff_false_intro (nI_pos h)
theorem nI_inj {a b : Nat} (ha : a < 2 ^ 31) (hb : b < 2 ^ 31) (h : nI a = nI b) : a = b := (nI_eq ha hb).mp h
theorem okI {v : Value} {h h2 : SH} (e : h = h2) : (some v = some v ∧ h = h2) := ⟨rfl, e⟩
theorem nI_b1' (b : Bool) : (nI b.toNat = 1) ↔ b = true := nI_b1 b
theorem bool_toNat_lt (b : Bool) : b.toNat < 2 ^ 31 := by cases b <;> decide
theorem some_int {x y : Int32} (h : x = y) : some (Value.int x) = some (Value.int y) := by rw [h]
def exo (o : Option XI) (S : KT) (Q : Option Value → SH → Prop) (k : KT) : KT := fun pc ls st h => match o with
  | none => S pc ls st h
  | some X => X Q k ls st h
theorem ex_s {L : List (Nat × XI)} {hd : Nat → Bool} {S : KT} {Q : Option Value → SH → Prop} {n pc : Nat} {ls : LSt} {st : List Value} {h : SH} : ex L hd S Q (n + 1) pc ls st h = if hd pc = true then S pc ls st h else exo (lk L pc) S Q (ex L hd S Q n) pc ls st h := by
  simp only [ex, exo]
  cases hd pc <;> cases lk L pc <;> rfl
theorem ex_1 {L : List (Nat × XI)} {hd : Nat → Bool} {S : KT} {Q : Option Value → SH → Prop} {n pc : Nat} {ls : LSt} {st : List Value} {h : SH} : ex1 L hd S Q n pc ls st h = exo (lk L pc) S Q (ex L hd S Q n) pc ls st h := by
  simp only [ex1, exo]
  cases lk L pc <;> rfl
theorem exo_some {S : KT} {Q : Option Value → SH → Prop} {X : XI} {k : KT} {pc : Nat} {ls : LSt} {st : List Value} {h : SH} : exo (some X) S Q k pc ls st h = X Q k ls st h := rfl
theorem exo_none {S : KT} {Q : Option Value → SH → Prop} {k : KT} {pc : Nat} {ls : LSt} {st : List Value} {h : SH} : exo none S Q k pc ls st h = S pc ls st h := rfl
theorem nI_shlb (b : Bool) {l : Nat} (hl : l < 31) : nI b.toNat <<< (nI l &&& 31) = nI (b.toNat * 2 ^ l) := by
  refine nI_shl (by omega) ?_
  have h1 : 2 ^ l < 2 ^ 31 := Nat.pow_lt_pow_right (by decide) hl
  cases b <;> simp <;> omega
/-- a loop over i < n -/
theorem loopN {P : Nat → Prop} (n : Nat) (hz : P n) (hs : ∀ i, i < n → P (i + 1) → P i) : ∀ i, i ≤ n → P i := by
  have key : ∀ d i, i + d = n → P i := by
    intro d
    induction d with
    | zero => intro i hi; have e : i = n := by omega
              subst e; exact hz
    | succ d ih => intro i hi; exact hs i (by omega) (ih (i + 1) (by omega))
  exact fun i hi => key (n - i) i (by omega)
theorem nf_t {b : Bool} (h : ¬ b = false) : b = true := by cases b <;> first | rfl | exact absurd rfl h
theorem and256 {a b : Nat} (h : a < 256) : a &&& b < 256 := Nat.lt_of_le_of_lt Nat.and_le_left h
theorem an256 {a b : Nat} (h : a < 256) : an a b < 256 := an_lt (n := 8) h
theorem pow8 {n : Nat} (h : n ≤ 8) : 2 ^ n ≤ 256 := Nat.pow_le_pow_right (n := 2) (by decide) h
theorem pow6 {n : Nat} (h : n ≤ 6) : 2 ^ n ≤ 64 := Nat.pow_le_pow_right (n := 2) (by decide) h
