/-! names looked up -/
def fnD (d : Nat → List Nat) (base : Nat) (l : List Nat) : Nat → Nat → Nat
  | 0, _ => 0
  | m + 1, k => if d (base + k) = l then k + 1 else fnD d base l m (k + 1)
theorem fnD_b {d : Nat → List Nat} {base : Nat} {l : List Nat} : ∀ m k, fnD d base l m k ≠ 0 → k < fnD d base l m k ∧ fnD d base l m k ≤ k + m ∧ d (base + (fnD d base l m k - 1)) = l := by
  intro m
  induction m with
  | zero => intro k h; exact absurd rfl h
  | succ m ih =>
    intro k h
    rw [fnD] at h ⊢
    by_cases q : d (base + k) = l
    · rw [if_pos q, Nat.add_sub_cancel]
      exact ⟨by omega, by omega, q⟩
    · rw [if_neg q] at h ⊢
      have := ih (k + 1) h
      exact ⟨by omega, by omega, this.2.2⟩
theorem k8_0 {l : List Nat} (h : l ≠ []) : k8 l ≠ 0 := by
  cases l with
  | nil => exact absurd rfl h
  | cons a l => rw [k8]; omega
theorem pk8_0 {l : List Nat} (hl : isLs l) (h : l ≠ []) : ¬ (0 : Int64) = pk8 l := fun q => by
  have h1 := k8_b hl
  have h2 := k8_0 h
  rw [pk8_k l hl, show (0 : Int64) = ll 0 from rfl, ll_eq (by decide) (by omega)] at q
  exact h2 q.symm
theorem number_c {S : XS} {h c srt many : Nat} {l : List Nat} {d : Nat → List Nat} (hrf : rf h 1 = c) (hln : ln c = 18) (hs : srt < 3) (hm : many ≤ 6) (hl : isLs l) (hn : l ≠ []) (hd : ∀ k, k < 6 → (k < many → isLs (d (srt * 6 + k)) ∧ S.2 c (srt * 6 + k) = pk8 (d (srt * 6 + k))) ∧ (many ≤ k → S.2 c (srt * 6 + k) = 0)) : f_X2_numberOf h (oo srt) (pk8 l) S = some (enc (fnD d (srt * 6) l many 0), S) := by
  have key : ∀ m k f, k + m = 6 → m < f → f_X2_numberOf_L9 (oo (srt * 6)) h (pk8 l) f (oo k) S = some (if fnD d (srt * 6) l (many - k) k = 0 then .inr () else .inl (oo (fnD d (srt * 6) l (many - k) k - 1), S)) := by
    intro m
    induction m with
    | zero =>
      intro k f hk hf
      obtain ⟨f, rfl⟩ : ∃ f', f = f' + 1 := ⟨f - 1, by omega⟩
      obtain rfl : k = 6 := by omega
      rw [f_X2_numberOf_L9, if_pos (by decide), show many - 6 = 0 by omega, fnD, if_pos rfl]
    | succ m ih =>
      intro k f hk hf
      obtain ⟨f, rfl⟩ : ∃ f', f = f' + 1 := ⟨f - 1, by omega⟩
      obtain ⟨d1, d2⟩ := hd k (by omega)
      have ei := oo_inb (k := srt * 6 + k) (m := 18) (by omega) (by omega)
      have en : ¬ oo (srt * 6 + k) < 0 := fun q => ei (.inl q)
      rw [f_X2_numberOf_L9, if_neg (by rw [show (6 : Int32) = oo 6 from rfl, oo_le (by omega) (by omega)]; omega), oo_add, if_neg en, if_neg (by rw [show (18 : Int32) = oo 18 from rfl, oo_le (by omega) (by omega)]; omega), hrf, if_neg (by rw [hln]; exact ei), oo_nat (by omega), show (1 : Int32) = oo 1 from rfl, oo_add, ih (k + 1) f (by omega) (by omega)]
      by_cases hk2 : k < many
      · obtain ⟨a1, a2⟩ := d1 hk2
        rw [show many - k = (many - (k + 1)) + 1 by omega, fnD, a2]
        by_cases q : d (srt * 6 + k) = l
        · rw [if_pos q, if_pos ((lg_cmp_eq _ _).mpr (by rw [q])), if_neg (by omega), Nat.add_sub_cancel]
        · rw [if_neg q, if_neg (fun z => q (by
            have := (lg_cmp_eq _ _).mp z
            rwa [pk8_eq a1 hl] at this))]
      · rw [d2 (by omega), if_neg (fun z => pk8_0 hl hn ((lg_cmp_eq _ _).mp z)), show many - k = 0 by omega, show many - (k + 1) = 0 by omega, fnD, fnD]
  unfold f_X2_numberOf
  rw [show (6 : Int32) = oo 6 from rfl, oo_mul, show (0 : Int32) = oo 0 from rfl, key 6 0 1000000 rfl (by decide), Option.bind_some, Nat.sub_zero]
  by_cases q : fnD d (srt * 6) l many 0 = 0
  · rw [if_pos q, q]
    rfl
  · rw [if_neg q]
    unfold enc
    rw [if_neg q]
theorem find_n {T : XS} {c base many : Nat} {l : List Nat} {d : Nat → List Nat} (hln : ln c = 18) (hb : base + many ≤ 18) (hl : isLs l) (hd : ∀ k, k < many → isLs (d (base + k)) ∧ T.2 c (base + k) = pk27 (d (base + k))) : f_X12_findIn c (oo base) (oo many) (pk27 l) T = some (enc (fnD d base l many 0), T) := by
  have key : ∀ m k f, k + m = many → m < f → f_X12_findIn_L3 c (oo base) (oo many) (pk27 l) f (oo k) T = some (if fnD d base l m k = 0 then .inr () else .inl (oo (fnD d base l m k - 1), T)) := by
    intro m
    induction m with
    | zero =>
      intro k f hk hf
      obtain ⟨f, rfl⟩ : ∃ f', f = f' + 1 := ⟨f - 1, by omega⟩
      obtain rfl : k = many := by omega
      rw [f_X12_findIn_L3, if_pos (Int32.le_refl _), fnD, if_pos rfl]
    | succ m ih =>
      intro k f hk hf
      obtain ⟨f, rfl⟩ : ∃ f', f = f' + 1 := ⟨f - 1, by omega⟩
      obtain ⟨a1, a2⟩ := hd k (by omega)
      rw [f_X12_findIn_L3, if_neg (by rw [oo_le (by omega) (by omega)]; omega), oo_add, if_neg (by rw [hln]; exact oo_inb (by omega) (by omega)), oo_nat (by omega), a2, show (1 : Int32) = oo 1 from rfl, oo_add, ih (k + 1) f (by omega) (by omega), fnD]
      by_cases q : d (base + k) = l
      · rw [if_pos q, if_pos ((lg_cmp_eq _ _).mpr (by rw [q])), if_neg (by omega), Nat.add_sub_cancel]
      · rw [if_neg q, if_neg (fun z => q (by
          have := (lg_cmp_eq _ _).mp z
          rwa [pk27_eq a1 hl] at this))]
  unfold f_X12_findIn
  rw [show (0 : Int32) = oo 0 from rfl, key many 0 1000000 (by omega) (by omega), Option.bind_some]
  by_cases q : fnD d base l many 0 = 0
  · rw [if_pos q, q]
    rfl
  · rw [if_neg q]
    unfold enc
    rw [if_neg q]
def Bad (U V : XS) : Prop := ∃ e q, 1 ≤ e ∧ e ≤ 4 ∧ q ≤ 940 ∧ U.1 1 2 = oo e ∧ U.1 1 3 = oo q ∧ V.1 188 10 = oo e ∧ V.1 188 11 = oo q
def FFC : List (Nat × Nat) := [(1, 2), (1, 3)]
def FFN : List (Nat × Nat) := [(188, 10), (188, 11), (188, 13)]
def FKC : List (Nat × Nat) := [(1, 9), (1, 10), (1, 11)]
section TD
variable {x : TX} {L i : Nat} {S T : XS}
/-- what a name's content is -/
theorem content_c (hx : xok x L) (h : AtC x L i S) (hk : xK x i = 2) : f_X8_content 1 S = some (pk8 (xW x i), S) := by
  obtain ⟨h1, h2, h3, h4⟩ := h
  have hL := hx.2.2.2.1
  unfold f_X8_content
  rw [h3, if_neg (by rw [show (0 : Int32) = oo 0 from rfl, oo_lt (by omega) (by decide)]; omega), if_neg (by rw [show (941 : Int32) = oo 941 from rfl, oo_le (by decide) (by omega)]; omega), show rf 1 7 = 6 from rfl, if_neg (by rw [ln_6]; exact oo_inb (by omega) (by omega)), oo_nat (by omega), (h2 i h1).2.2.2 hk]
theorem contentV_c (hx : xok x L) (h : AtC x L i S) (hk : xK x i = 3) : f_X8_content 1 S = some (ll (xV x i), S) := by
  obtain ⟨h1, h2, h3, h4⟩ := h
  have hL := hx.2.2.2.1
  unfold f_X8_content
  rw [h3, if_neg (by rw [show (0 : Int32) = oo 0 from rfl, oo_lt (by omega) (by decide)]; omega), if_neg (by rw [show (941 : Int32) = oo 941 from rfl, oo_le (by decide) (by omega)]; omega), show rf 1 7 = 6 from rfl, if_neg (by rw [ln_6]; exact oo_inb (by omega) (by omega)), oo_nat (by omega), (h2 i h1).2.2.1 hk]
theorem bad_p {k : Nat} {U V : XS} (hx : xok x L) (hi : i ≤ L) (hk : 1 ≤ k ∧ k ≤ 4) (u2 : U.1 1 2 = oo (bdK x i k)) (u3 : U.1 1 3 = oo (xP x i)) (v10 : V.1 188 10 = oo (bdK x i k)) (v11 : V.1 188 11 = oo (xP x i)) : Bad U V := ⟨_, _, by unfold bdK; split <;> omega, by unfold bdK; split <;> omega, xP_le hx hi, u2, u3, v10, v11⟩
theorem bdK_1 (x : TX) (i : Nat) : bdK x i 1 = 1 := by
  unfold bdK
  split <;> rfl
theorem bdK_ne {x : TX} {i k : Nat} (h : xK x i ≠ 1) : bdK x i k = k := by
  unfold bdK
  rw [if_neg h]
theorem told_p {h ch cn srt base many : Nat} {d : Nat → List Nat} (hx : xok x L) (hS : AtC x L i S) (hT : AtN x i T) (hrf : rf h 1 = ch) (hlh : ln ch = 18) (hln : ln cn = 18) (hs : srt < 3) (hm : many ≤ 6) (hb : base = srt * 6) (hc : ∀ k, k < 6 → (k < many → isLs (d (srt * 6 + k)) ∧ S.2 ch (srt * 6 + k) = pk8 (d (srt * 6 + k))) ∧ (many ≤ k → S.2 ch (srt * 6 + k) = 0)) (hn : ∀ k, k < many → T.2 cn (base + k) = pk27 (d (base + k))) :
    (∃ U V, f_X8_takeTold 1 h (oo srt) S = some (false, U) ∧ f_X12_isOne 188 cn (oo base) (oo many) T = some (false, V) ∧ Bad U V ∧ Fr FFC S U ∧ Fr FFN T V) ∨
    (∃ k U, k < many ∧ xK x i = 2 ∧ i < L ∧ d (base + k) = xW x i ∧ f_X8_takeTold 1 h (oo srt) S = some (true, U) ∧ f_X12_isOne 188 cn (oo base) (oo many) T = some (true, sI T 188 13 (oo k)) ∧ AtC x L (i + 1) U ∧ AtN x i (sI T 188 13 (oo k)) ∧ U.1 1 11 = oo k ∧ Fr FKC S U) := by
  have hi : i ≤ L := hS.1
  have hlt := xK_lt hx hi
  have hnm := isName_n hx hT hi
  have e10 : S.1 1 10 = oo (xK x i) := hS.2.2.2
  by_cases hk : xK x i = 2
  · obtain ⟨l1, l2, l3⟩ := xK_2 hx hi hk
    have hiL := xlt hx hi (by omega) (by omega)
    have hcc := content_c hx hS hk
    have hnc := number_c (S := S) hrf hlh hs hm l1 l2 hc
    have e12 : T.2 188 12 = pk27 (xW x i) := hT.2.2.2.2.2.2.2.1 (.inl hk)
    have hfn := find_n (T := T) (c := cn) (base := base) (many := many) (l := xW x i) (d := d) hln (by omega) l1 (fun k hk => ⟨by rw [hb]; exact ((hc k (by omega)).1 hk).1, hn k hk⟩)
    rw [hb] at hfn
    have hfb := fnD_b (d := d) (base := srt * 6) (l := xW x i) many 0
    rw [decide_eq_true hk] at hnm
    by_cases hf : fnD d (srt * 6) (xW x i) many 0 = 0
    · refine .inl ?_
      obtain ⟨U, u1, u2, u3, u4⟩ := fail_c hS hx (oo 3)
      have F13 : Fr FFN T (sI T 188 13 nn) := Fr.sIp (Fr.rf _ _) rfl
      have hT2 : AtN x i (sI T 188 13 nn) := hT.fr F13 rfl
      obtain ⟨V, v1, v2, v3, v4⟩ := bad_n hx hT2 hi 3
      refine ⟨U, V, ?_, ?_, ?_, u4, Fr.trans F13 (v4.mono rfl)⟩
      · unfold f_X8_takeTold
        rw [e10, hk, if_pos (show oo 2 = (2 : Int32) from rfl), hcc, Option.bind_some]
        dsimp only
        rw [hnc, hf, Option.bind_some]
        dsimp only
        rw [if_pos (show enc 0 = (-1 : Int32) from rfl), show (3 : Int32) = oo 3 from rfl, u1]
      · unfold f_X12_isOne
        rw [hnm, Option.bind_some]
        dsimp only
        rw [if_pos rfl, e12, hb, hfn, hf, Option.bind_some]
        dsimp only
        rw [sI_same, if_pos (show enc 0 = (-1 : Int32) from rfl), show (3 : Int32) = oo 3 from rfl, enc_0, v1, Option.bind_some]
        dsimp only
        rw [if_neg (by decide)]
      · rw [bdK_ne (by omega)] at v2
        exact ⟨3, xP x i, by decide, by decide, xP_le hx hi, u2, u3, v2, v3⟩
    · refine .inr ?_
      obtain ⟨b1, b2, b3⟩ := hfb hf
      obtain ⟨k, hkk⟩ : ∃ k, fnD d (srt * 6) (xW x i) many 0 = k + 1 := ⟨_, (Nat.sub_add_cancel b1).symm⟩
      rw [hkk] at b2 b3 hnc hfn
      rw [Nat.add_sub_cancel] at b3
      have F1 : Fr FKC S (sI S 1 11 (oo k)) := Fr.sIp (Fr.rf _ _) rfl
      have hS1 : AtC x L i (sI S 1 11 (oo k)) := hS.fr (Fr.sIp (Fr.rf [(1, 11)] _) rfl) rfl
      obtain ⟨s1, s2⟩ := step_c hx hS1 hiL
      have FT : Fr [(188, 13)] T (sI T 188 13 (oo k)) := Fr.sIp (Fr.rf _ _) rfl
      refine ⟨k, t_X8_step 1 (sI S 1 11 (oo k)), by omega, hk, hiL, by rw [hb]; exact b3, ?_, ?_, s1, hT.fr FT rfl, by rw [s2.get rfl, sI_same], Fr.trans F1 (s2.mono rfl)⟩
      · unfold f_X8_takeTold
        rw [e10, hk, if_pos (show oo 2 = (2 : Int32) from rfl), hcc, Option.bind_some]
        dsimp only
        rw [hnc, Option.bind_some]
        dsimp only
        rw [enc_s, if_neg (by rw [show (-1 : Int32) = nn from rfl, oo_nn (by omega)]; exact id)]
      · unfold f_X12_isOne
        rw [hnm, Option.bind_some]
        dsimp only
        rw [if_pos rfl, e12, hb, hfn, Option.bind_some]
        dsimp only
        rw [enc_s, sI_same, if_neg (by rw [show (-1 : Int32) = nn from rfl, oo_nn (by omega)]; exact id)]
  · refine .inl ?_
    rw [decide_eq_false hk] at hnm
    obtain ⟨U, u1, u2, u3, u4⟩ := fail_c hS hx (oo 1)
    obtain ⟨V, v1, v2, v3, v4⟩ := bad_n hx hT hi 1
    rw [bdK_1] at v2
    refine ⟨U, V, ?_, ?_, ⟨1, xP x i, by decide, by decide, xP_le hx hi, u2, u3, v2, v3⟩, u4, v4.mono rfl⟩
    · unfold f_X8_takeTold
      rw [e10, if_neg (by rw [show (2 : Int32) = oo 2 from rfl, oo_eq (by omega) (by decide)]; exact hk), show (1 : Int32) = oo 1 from rfl, u1]
    · unfold f_X12_isOne
      rw [hnm, Option.bind_some]
      dsimp only
      rw [if_neg (by decide), show (1 : Int32) = oo 1 from rfl, v1, Option.bind_some]
theorem num_p {lo hi : Nat} (hx : xok x L) (hS : AtC x L i S) (hT : AtN x i T) (hlo : lo ≤ 999) (hhi : hi ≤ 999) :
    (∃ U V, f_X8_takeNumber 1 (oo lo) (oo hi) S = some (false, U) ∧ f_X12_isNumber 188 (oo lo) (oo hi) T = some (false, V) ∧ Bad U V ∧ Fr FFC S U ∧ Fr FFN T V) ∨
    (∃ k U, lo ≤ k ∧ k ≤ hi ∧ xK x i = 3 ∧ i < L ∧ f_X8_takeNumber 1 (oo lo) (oo hi) S = some (true, U) ∧ f_X12_isNumber 188 (oo lo) (oo hi) T = some (true, sI T 188 13 (oo k)) ∧ AtC x L (i + 1) U ∧ AtN x i (sI T 188 13 (oo k)) ∧ U.1 1 11 = oo k ∧ Fr FKC S U) := by
  have hiL : i ≤ L := hS.1
  have hlt := xK_lt hx hiL
  have hk3 := (kind_n hx hT hiL).2.2.2.1
  have e10 : S.1 1 10 = oo (xK x i) := hS.2.2.2
  by_cases hk : xK x i = 3
  · have hV := xK_3 hx hiL hk
    have hlL := xlt hx hiL (by omega) (by omega)
    have hcc := contentV_c hx hS hk
    have e8 : T.1 188 8 = oo (xV x i) := hT.2.2.2.2.2.2.2.2 hk
    by_cases hr : lo ≤ xV x i ∧ xV x i ≤ hi
    · refine .inr ?_
      have F1 : Fr FKC S (sI S 1 11 (oo (xV x i))) := Fr.sIp (Fr.rf _ _) rfl
      have hS1 : AtC x L i (sI S 1 11 (oo (xV x i))) := hS.fr (Fr.sIp (Fr.rf [(1, 11)] _) rfl) rfl
      obtain ⟨s1, s2⟩ := step_c hx hS1 hlL
      have FT : Fr [(188, 13)] T (sI T 188 13 (oo (xV x i))) := Fr.sIp (Fr.rf _ _) rfl
      refine ⟨xV x i, t_X8_step 1 (sI S 1 11 (oo (xV x i))), hr.1, hr.2, hk, hlL, ?_, ?_, s1, hT.fr FT rfl, by rw [s2.get rfl, sI_same], Fr.trans F1 (s2.mono rfl)⟩
      · unfold f_X8_takeNumber
        rw [e10, hk, if_pos (show oo 3 = (3 : Int32) from rfl), hcc, Option.bind_some]
        dsimp only
        rw [oo_ll, if_neg (by rw [oo_lt (by omega) (by omega)]; omega), if_pos (by rw [oo_le (by omega) (by omega)]; omega)]
      · have hin : t_X12_isIn (oo (xV x i)) (oo lo) (oo hi) = true := by
          unfold t_X12_isIn
          rw [if_neg (by rw [oo_lt (by omega) (by omega)]; omega), if_neg (by rw [oo_lt (by omega) (by omega)]; omega)]
        unfold f_X12_isNumber
        rw [if_pos (hk3.mpr hk), e8, hin, if_pos rfl]
    · refine .inl ?_
      obtain ⟨U, u1, u2, u3, u4⟩ := fail_c hS hx (oo 2)
      obtain ⟨V, v1, v2, v3, v4⟩ := bad_n hx hT hiL 2
      rw [bdK_ne (by omega)] at v2
      refine ⟨U, V, ?_, ?_, ⟨2, xP x i, by decide, by decide, xP_le hx hiL, u2, u3, v2, v3⟩, u4, v4.mono rfl⟩
      · unfold f_X8_takeNumber
        rw [e10, hk, if_pos (show oo 3 = (3 : Int32) from rfl), hcc, Option.bind_some]
        dsimp only
        rw [oo_ll, show (2 : Int32) = oo 2 from rfl, u1]
        by_cases h1 : xV x i < lo
        · rw [if_pos (by rw [oo_lt (by omega) (by omega)]; exact h1)]
        · rw [if_neg (by rw [oo_lt (by omega) (by omega)]; exact h1), if_neg (by rw [oo_le (by omega) (by omega)]; omega)]
      · have hin : t_X12_isIn (oo (xV x i)) (oo lo) (oo hi) = false := by
          unfold t_X12_isIn
          by_cases h1 : xV x i < lo
          · rw [if_pos (by rw [oo_lt (by omega) (by omega)]; exact h1)]
          · rw [if_neg (by rw [oo_lt (by omega) (by omega)]; exact h1), if_pos (by rw [oo_lt (by omega) (by omega)]; omega)]
        unfold f_X12_isNumber
        rw [if_pos (hk3.mpr hk), e8, hin, if_neg (by decide), show (2 : Int32) = oo 2 from rfl, v1, Option.bind_some]
  · refine .inl ?_
    obtain ⟨U, u1, u2, u3, u4⟩ := fail_c hS hx (oo 1)
    obtain ⟨V, v1, v2, v3, v4⟩ := bad_n hx hT hiL 1
    rw [bdK_1] at v2
    refine ⟨U, V, ?_, ?_, ⟨1, xP x i, by decide, by decide, xP_le hx hiL, u2, u3, v2, v3⟩, u4, v4.mono rfl⟩
    · unfold f_X8_takeNumber
      rw [e10, if_neg (by rw [show (3 : Int32) = oo 3 from rfl, oo_eq (by omega) (by decide)]; exact hk), show (1 : Int32) = oo 1 from rfl, u1]
    · unfold f_X12_isNumber
      rw [if_neg (fun z => hk (hk3.mp z)), show (1 : Int32) = oo 1 from rfl, v1, Option.bind_some]
/-- a sign that is due -/
theorem end_p (hx : xok x L) (hS : AtC x L i S) (hT : AtN x i T) :
    (∃ U V, t_X8_take 1 (oo 59) S = (false, U) ∧ f_X12_readEnd 188 T = some (false, V) ∧ Bad U V ∧ Fr FFC S U ∧ Fr FFN T V) ∨
    (∃ U V, t_X8_take 1 (oo 59) S = (true, U) ∧ f_X12_readEnd 188 T = some (true, V) ∧ i < L ∧ AtC x L (i + 1) U ∧ AtN x (i + 1) V ∧ Fr FKC S U ∧ Fr FGO T V) := by
  have hi : i ≤ L := hS.1
  have hlt := xK_lt hx hi
  have e10 : S.1 1 10 = oo (xK x i) := hS.2.2.2
  have hsg := sign_n hx hT hi (c := 59) rfl
  by_cases hk : xK x i = 59
  · refine .inr ?_
    have hiL := xlt hx hi (by omega) (by omega)
    obtain ⟨s1, s2⟩ := step_c hx hS hiL
    obtain ⟨V, v1, v2, v3⟩ := goN hx hT hiL
    refine ⟨t_X8_step 1 S, V, ?_, ?_, hiL, s1, v2, s2.mono rfl, v3⟩
    · unfold t_X8_take
      rw [e10, hk, if_pos rfl]
    · unfold f_X12_readEnd
      rw [show (59 : Int32) = oo 59 from rfl, hsg, decide_eq_true hk, if_pos rfl, v1, Option.bind_some]
  · refine .inl ?_
    obtain ⟨U, u1, u2, u3, u4⟩ := fail_c hS hx (oo 1)
    obtain ⟨V, v1, v2, v3, v4⟩ := bad_n hx hT hi 1
    rw [bdK_1] at v2
    refine ⟨U, V, ?_, ?_, ⟨1, xP x i, by decide, by decide, xP_le hx hi, u2, u3, v2, v3⟩, u4, v4.mono rfl⟩
    · unfold t_X8_take
      rw [e10, if_neg (by rw [oo_eq (by omega) (by decide)]; exact hk), show (1 : Int32) = oo 1 from rfl, u1]
    · unfold f_X12_readEnd
      rw [show (59 : Int32) = oo 59 from rfl, hsg, decide_eq_false hk, if_neg (by decide), show (1 : Int32) = oo 1 from rfl, v1, Option.bind_some]
end TD
