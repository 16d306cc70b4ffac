/-! the model: the fraction -/
def raL (L : fdL) (a b : Nat) : fdL := fd_up (fd_up L 0 24 (lN (a / Nat.gcd a b))) 0 25 (lN (b / Nat.gcd a b))
theorem c_X11_tells (α : Nat → Nat) (I : fdI) (L : fdL) (a b : Nat) (ha : a < 2 ^ 31) (hb0 : 0 < b) (hb : b < 2 ^ 31) : Con fd_SM α yX11_tells mX11_tells [.ref (α 0), .long (lN a), .long (lN b)] I L (fd_is none I (raL L a b)) := by
  refine Con.of (by decide) rfl (Nat.le_of_ble_eq_true rfl) ?_
  have loop : ∀ m x y, y < m → x < 2 ^ 31 → y < 2 ^ 31 → Nat.gcd x y = Nat.gcd a b → Rn fd_SM α mX11_tells 6 [(7, .long (lN y)), (5, .long (lN x)), (0, .ref (α 0)), (1, .long (lN a)), (3, .long (lN b))] [] I L (fd_is none I (raL L a b)) := by
    intro m
    induction m with
    | zero => intro x y h; exact absurd h (Nat.not_lt_zero _)
    | succ m ih =>
      intro x y hm hx hy hg
      by_cases hz : y = 0
      · subst hz
        rw [Nat.gcd_zero_right] at hg
        subst hg
        have hpos : 0 < Nat.gcd a b := Nat.gcd_pos_of_pos_right _ hb0
        have hne : ¬ lN (Nat.gcd a b) = 0 := fun q => by
          have := (lN_eq (b := 0) hx (by omega)).mp q
          omega
        refine r_lload dX11_tells_6 rfl ?_
        refine r_lconst (v := 0) dX11_tells_8 rfl ?_
        refine r_lcmp dX11_tells_9 ?_
        refine r_if_eq 31 dX11_tells_10 (by decide) (fun h10 => ?_) (fun h10 => absurd h10 (not_not_intro (by decide)))
        refine r_aload_n dX11_tells_31 rfl ?_
        refine r_lload_n dX11_tells_32 rfl ?_
        refine r_lload dX11_tells_33 rfl ?_
        refine r_ldiv dX11_tells_35 hne ?_
        rw [pk_lDiv (by omega) hpos (by omega)]
        refine r_putJ rfl rfl fl_11_86 fw_11_24 dX11_tells_36 ?_
        refine r_aload_n dX11_tells_39 rfl ?_
        refine r_lload_n dX11_tells_40 rfl ?_
        refine r_lload dX11_tells_41 rfl ?_
        refine r_ldiv dX11_tells_43 hne ?_
        rw [pk_lDiv (by omega) hpos (by omega)]
        refine r_putJ rfl rfl fl_11_90 fw_11_25 dX11_tells_44 ?_
        refine r_vret rfl dX11_tells_47 ?_
        exact fd_isI rfl rfl rfl
      · have hne : ¬ lN y = 0 := fun q => by
          have := (lN_eq (b := 0) hy (by omega)).mp q
          omega
        have hlt : x % y < y := Nat.mod_lt _ (by omega)
        refine r_lload dX11_tells_6 rfl ?_
        refine r_lconst (v := 0) dX11_tells_8 rfl ?_
        refine r_lcmp dX11_tells_9 ?_
        refine r_if_eq 31 dX11_tells_10 (by decide) (fun h10 => absurd h10 (fun q => hne ((lg_cmp_eq _ _).mp q))) (fun h10 => ?_)
        refine r_lload dX11_tells_13 rfl ?_
        refine r_lload dX11_tells_15 rfl ?_
        refine r_lrem dX11_tells_17 hne ?_
        rw [pk_lRem (by omega) (by omega) (by omega)]
        refine r_lstore (lv' := [(9, _), (7, _), (5, _), (0, _), (1, _), (3, _)]) dX11_tells_18 (Nat.le_of_ble_eq_true rfl) rfl ?_
        refine r_lload dX11_tells_20 rfl ?_
        refine r_lstore (lv' := [(5, _), (9, _), (7, _), (0, _), (1, _), (3, _)]) dX11_tells_22 (Nat.le_of_ble_eq_true rfl) rfl ?_
        refine r_lload dX11_tells_24 rfl ?_
        refine r_lstore (lv' := [(7, _), (5, _), (9, _), (0, _), (1, _), (3, _)]) dX11_tells_26 (Nat.le_of_ble_eq_true rfl) rfl ?_
        refine r_goto (tgt := 6) dX11_tells_28 (by decide) ?_
        exact r_keep [7, 5, 0, 1, 3] rfl (ih y (x % y) (by omega) hy (by omega) (by rw [Nat.gcd_comm, ← Nat.gcd_rec, Nat.gcd_comm]; exact hg))
  refine r_lload_n dX11_tells_0 rfl ?_
  refine r_lstore (lv' := [(5, _), (0, _), (1, _), (3, _)]) dX11_tells_1 (Nat.le_of_ble_eq_true rfl) rfl ?_
  refine r_lload_n dX11_tells_3 rfl ?_
  refine r_lstore (lv' := [(7, _), (5, _), (0, _), (1, _), (3, _)]) dX11_tells_4 (Nat.le_of_ble_eq_true rfl) rfl ?_
  exact r_keep [7, 5, 0, 1, 3] rfl (loop (b + 1) a b (by omega) ha hb rfl)
def smN (f : Nat → Nat) : Nat → Nat
  | 0 => 0
  | k + 1 => smN f k + f k
theorem smN_le (f : Nat → Nat) (M : Nat) (h : ∀ k, f k ≤ M) : ∀ k, smN f k ≤ k * M := by
  intro k
  induction k with
  | zero => simp [smN]
  | succ k ih =>
    have := h k
    show smN f k + f k ≤ (k + 1) * M
    rw [Nat.succ_mul]
    omega
theorem smN_congr {f g : Nat → Nat} {k : Nat} (h : ∀ i, i < k → f i = g i) : smN f k = smN g k := by
  induction k with
  | zero => rfl
  | succ k ih => show smN f k + f k = smN g k + g k; rw [ih (fun i hi => h i (by omega)), h k (by omega)]
def meS (V : pV) (n nn np : Nat) (r : Nat) : Nat := if tlV V n np r then wlV V n nn r else 0
/-- mean's end -/
def mnP (V : pV) (n nn np : Nat) (I : fdI) (L : fdL) (v : Value) (I' : fdI) (L' : fdL) : Prop := (cnN (tlV V n np) (fac n) ≠ 0 → v = .int 1 ∧ mSm I I' ∧ L' = raL L (smN (meS V n nn np) (fac n)) (cnN (tlV V n np) (fac n))) ∧ (cnN (tlV V n np) (fac n) = 0 → v = .int (-3) ∧ (∃ J, mSm I J ∧ I' = mNo J) ∧ L' = L)
theorem c_X11_mean (V : pV) (α : Nat → Nat) (I : fdI) (L : fdL) {n nn np nt : Nat} (h : mOk V I n nn np nt) : Con fd_SM α yX11_mean mX11_mean [.ref (α 0)] I L (fd_ip (mnP V n nn np I L)) := by
  refine Con.of (by decide) rfl (Nat.le_of_ble_eq_true rfl) ?_
  have hn7 := h.2.1
  have hf := fac_le hn7.2
  have hwl : ∀ r, wlV V n nn r ≤ 7 := fun r => Nat.le_trans (cnN_le _ _) hn7.2
  have hsm := smN_le (meS V n nn np) 7 (fun r => by unfold meS; split; exact hwl r; exact Nat.zero_le _)
  have hcn := cnN_le (tlV V n np)
  have loop : ∀ r, r ≤ fac n → ∀ I1 : fdI, trI I I1 n r → ∀ L1 : fdL, L1 = L → Rn fd_SM α mX11_mean 14 [(5, .int (nI r)), (3, .long (lN (cnN (tlV V n np) r))), (1, .long (lN (smN (meS V n nn np) r))), (0, .ref (α 0))] [] I1 L1 (fd_ip (mnP V n nn np I L)) := by
    refine fd_down (fun r hr ih => ?_)
    intro I1 t1 L1 e1
    have h1 := h.sm t1.1
    have hs1 := hsm r
    have hc1 := hcn r
    by_cases hx : r = fac n
    · subst hx
      subst e1
      by_cases hz : cnN (tlV V n np) (fac n) = 0
      · rw [hz]
        refine r_iload dX11_mean_14 rfl ?_
        refine r_aload_n dX11_mean_16 rfl ?_
        refine r_cVr (As := []) (c_X11_orders α _ _ h1.1 hn7) lk_11_147 rfl rfl (by decide) (by decide) rfl rfl (Nat.le_of_ble_eq_true rfl) dX11_mean_17 ?_
        refine r_icmp_ge 64 dX11_mean_20 (by decide) (fun h20 => ?_) (fun h20 => absurd h20 (not_not_intro (Int32.le_refl _)))
        refine r_lload_n dX11_mean_64 rfl ?_
        refine r_lconst (v := 0) dX11_mean_65 rfl ?_
        refine r_lcmp dX11_mean_66 ?_
        refine r_if_ne 75 dX11_mean_67 (by decide) (fun h67 => absurd h67 (not_not_intro (by decide))) (fun h67 => ?_)
        refine r_aload_n dX11_mean_70 rfl ?_
        refine r_cVr (As := []) (c_X11_no α _ _) lk_11_131 rfl rfl (by decide) (by decide) rfl rfl (Nat.le_of_ble_eq_true rfl) dX11_mean_71 ?_
        refine r_iret rfl dX11_mean_74 ?_
        exact ⟨_, rfl, fun q => absurd hz q, fun _ => ⟨rfl, ⟨_, t1.1, rfl⟩, rfl⟩⟩
      · refine r_iload dX11_mean_14 rfl ?_
        refine r_aload_n dX11_mean_16 rfl ?_
        refine r_cVr (As := []) (c_X11_orders α _ _ h1.1 hn7) lk_11_147 rfl rfl (by decide) (by decide) rfl rfl (Nat.le_of_ble_eq_true rfl) dX11_mean_17 ?_
        refine r_icmp_ge 64 dX11_mean_20 (by decide) (fun h20 => ?_) (fun h20 => absurd h20 (not_not_intro (Int32.le_refl _)))
        refine r_lload_n dX11_mean_64 rfl ?_
        refine r_lconst (v := 0) dX11_mean_65 rfl ?_
        refine r_lcmp dX11_mean_66 ?_
        refine r_if_ne 75 dX11_mean_67 (by decide) (fun h67 => ?_) (fun h67 => absurd h67 (fun q => hz ((lN_eq (b := 0) (by omega) (by omega)).mp ((lg_cmp_eq _ _).mp q))))
        refine r_aload_n dX11_mean_75 rfl ?_
        refine r_lload_n dX11_mean_76 rfl ?_
        refine r_lload_n dX11_mean_77 rfl ?_
        refine r_cVn (As := [_, _]) (c_X11_tells α _ _ _ _ (by omega) (by omega) (by omega)) lk_11_198 rfl rfl (by decide) (by decide) rfl rfl (Nat.le_of_ble_eq_true rfl) dX11_mean_78 ?_
        refine r_iconst (v := 1) dX11_mean_81 rfl ?_
        refine r_iret rfl dX11_mean_82 ?_
        exact ⟨_, rfl, fun _ => ⟨rfl, t1.1, rfl⟩, fun q => absurd q hz⟩
    · have hr1 : r < fac n := by omega
      have ih := ih hr1
      have go : ∀ I2 : fdI, trI I I2 n r → ∀ L2 : fdL, L2 = L → Rn fd_SM α mX11_mean 50 [(5, .int (nI r)), (3, .long (lN (cnN (tlV V n np) (r + 1)))), (1, .long (lN (smN (meS V n nn np) (r + 1)))), (0, .ref (α 0))] [] I2 L2 (fd_ip (mnP V n nn np I L)) := by
        intro I2 t2 L2 e2
        refine r_aload_n dX11_mean_50 rfl ?_
        refine r_aload_n dX11_mean_51 rfl ?_
        refine r_getR rfl rfl fl_11_58 dX11_mean_52 ?_
        refine r_cVq (As := [_]) (c_turns α I _ _ (h.sm t2.1).1 hn7 hr1 t2) lk_11_184 rfl rfl (by decide) (by decide) rfl rfl (Nat.le_of_ble_eq_true rfl) dX11_mean_55 (fun I55 L55 q55 => ?_)
        obtain ⟨e55, s55, w55⟩ := q55
        refine r_iinc (v := _ + 1) (lv' := [(5, _), (3, _), (1, _), (0, _)]) dX11_mean_58 rfl rfl (Nat.le_of_ble_eq_true rfl) rfl ?_
        refine r_goto (tgt := 14) dX11_mean_61 (by decide) ?_
        rw [nI_1]
        exact r_keep [5, 3, 1, 0] rfl (ih _ s55 _ (e55.trans e2))
      refine r_iload dX11_mean_14 rfl ?_
      refine r_aload_n dX11_mean_16 rfl ?_
      refine r_cVr (As := []) (c_X11_orders α _ _ h1.1 hn7) lk_11_147 rfl rfl (by decide) (by decide) rfl rfl (Nat.le_of_ble_eq_true rfl) dX11_mean_17 ?_
      refine r_icmp_ge 64 dX11_mean_20 (by decide) (fun h20 => absurd h20 (fun q => absurd ((nI_leI (by omega) (by omega)).mp q) (by omega))) (fun h20 => ?_)
      refine r_aload_n dX11_mean_23 rfl ?_
      refine r_aload_n dX11_mean_24 rfl ?_
      refine r_getR rfl rfl fl_11_58 dX11_mean_25 ?_
      refine r_cVq (As := [_]) (c_lives V α _ _ 17 rfl (Or.inr rfl) h1 (t1.2 hr1) (prm_P hn7 hr1)) lk_11_170 rfl rfl (by decide) (by decide) rfl rfl (Nat.le_of_ble_eq_true rfl) dX11_mean_28 (fun I28 L28 q28 => ?_)
      obtain ⟨e28, s28, t28, w28⟩ := q28
      refine r_aload_n dX11_mean_31 rfl ?_
      refine r_cVr (As := []) (c_isTold V α _ _ (h1.sm s28) (fun d hd => (w28.1 d hd).1) (prm_P hn7 hr1)) lk_11_174 rfl rfl (by decide) (by decide) rfl rfl (Nat.le_of_ble_eq_true rfl) dX11_mean_32 ?_
      refine r_if_eq 50 dX11_mean_35 (by decide) (fun h35 => ?_) (fun h35 => ?_)
      · have z : ¬ tlV V n np r = true := fd_b0.mp h35
        have c1 : cnN (tlV V n np) (r + 1) = cnN (tlV V n np) r := by
          show _ + (if tlV V n np r = true then 1 else 0) = _
          rw [if_neg z]; rfl
        have c2 : smN (meS V n nn np) (r + 1) = smN (meS V n nn np) r := by
          show _ + (if tlV V n np r = true then _ else 0) = _
          rw [if_neg z]; rfl
        rw [c1, c2] at go
        exact r_keep [5, 3, 1, 0] rfl (go _ (t1.lives s28 t28.1) _ (e28.trans e1))
      · have z : tlV V n np r = true := fd_bn.mp h35
        have c1 : cnN (tlV V n np) (r + 1) = cnN (tlV V n np) r + 1 := by
          show _ + (if tlV V n np r = true then 1 else 0) = _
          rw [if_pos z]
        have c2 : smN (meS V n nn np) (r + 1) = smN (meS V n nn np) r + wlN V n nn (prm n r) := by
          show _ + (if tlV V n np r = true then _ else 0) = _
          rw [if_pos z]; rfl
        rw [c1, c2] at go
        refine r_lload_n dX11_mean_38 rfl ?_
        refine r_aload_n dX11_mean_39 rfl ?_
        refine r_getV rfl rfl fl_11_164 dX11_mean_40 w28.2 ?_
        refine r_i2l dX11_mean_43 rfl ?_
        rw [nI_l (by have := hwl r; unfold wlV at this; omega)]
        refine r_ladd dX11_mean_44 ?_
        rw [lN_add]
        refine r_lstore_n (lv' := [(1, _), (5, _), (3, _), (0, _)]) dX11_mean_45 (Nat.le_of_ble_eq_true rfl) rfl ?_
        refine r_lload_n dX11_mean_46 rfl ?_
        refine r_lconst (v := 1) dX11_mean_47 rfl ?_
        refine r_ladd dX11_mean_48 ?_
        rw [lN_1]
        refine r_lstore_n (lv' := [(3, _), (1, _), (5, _), (0, _)]) dX11_mean_49 (Nat.le_of_ble_eq_true rfl) rfl ?_
        exact r_keep [5, 3, 1, 0] rfl (go _ (t1.lives s28 t28.1) _ (e28.trans e1))
  refine r_lconst (v := 0) dX11_mean_0 rfl ?_
  refine r_lstore_n (lv' := [(1, _), (0, _)]) dX11_mean_1 (Nat.le_of_ble_eq_true rfl) rfl ?_
  refine r_lconst (v := 0) dX11_mean_2 rfl ?_
  refine r_lstore_n (lv' := [(3, _), (1, _), (0, _)]) dX11_mean_3 (Nat.le_of_ble_eq_true rfl) rfl ?_
  refine r_aload_n dX11_mean_4 rfl ?_
  refine r_getR rfl rfl fl_11_58 dX11_mean_5 ?_
  refine r_cSq (As := [_]) (c_starts α _ _ hn7) lk_11_178 (by decide) (by decide) rfl rfl (Nat.le_of_ble_eq_true rfl) dX11_mean_8 (fun I8 L8 q8 => ?_)
  obtain ⟨e8, s8⟩ := q8
  refine r_iconst (v := 0) dX11_mean_11 rfl ?_
  refine r_istore (lv' := [(5, _), (3, _), (1, _), (0, _)]) dX11_mean_12 (Nat.le_of_ble_eq_true rfl) rfl ?_
  exact r_keep [5, 3, 1, 0] rfl (loop 0 (by omega) _ s8 _ e8)
/-- a life in which a day teaches a fact, too -/
def teV (V : pV) (a : Nat) (f : Int32) : pV := fd_up V 3 a (V 3 a ||| 1 <<< (f &&& 31))
def biN (x f : Int32) : Nat := if (x >>> (f &&& 31)) &&& 1 = 0 then 0 else 1
theorem and1_01 (y : Int32) : y &&& 1 = 0 ∨ y &&& 1 = 1 := by
  have h : (y &&& 1).toBitVec = 0 ∨ (y &&& 1).toBitVec = 1 := by
    show y.toBitVec &&& 1#32 = 0 ∨ y.toBitVec &&& 1#32 = 1
    have e : (y.toBitVec &&& 1#32).toNat = y.toBitVec.toNat % 2 := by
      rw [BitVec.toNat_and]
      exact Nat.and_one_is_mod _
    rcases Nat.mod_two_eq_zero_or_one y.toBitVec.toNat with q | q
    · exact Or.inl (BitVec.eq_of_toNat_eq (by rw [e, q]; rfl))
    · exact Or.inr (BitVec.eq_of_toNat_eq (by rw [e, q]; rfl))
  rcases h with h | h
  · exact Or.inl (Int32.toBitVec_inj.mp h)
  · exact Or.inr (Int32.toBitVec_inj.mp h)
theorem biN_l (x f : Int32) : ((x >>> (f &&& 31)) &&& 1).toInt64 = lN (biN x f) := by
  unfold biN
  rcases and1_01 (x >>> (f &&& 31)) with q | q
  · rw [q, if_pos rfl]; rfl
  · rw [q, if_neg (by decide)]; rfl
theorem biN_le (x f : Int32) : biN x f ≤ 1 := by unfold biN; split <;> decide
def prS (V : pV) (n nn : Nat) (f : Int32) (a b : Nat) (r : Nat) : Nat := biN (knV (teV V a f) n nn (prm n r) b) f
theorem or64 {x y : Int32} (hx : dayP x 64) (hy : dayP y 64) : dayP (x ||| y) 64 := by
  obtain ⟨a, ha, rfl⟩ := dayP_nI hx
  obtain ⟨b, hb, rfl⟩ := dayP_nI hy
  rw [nI_or]
  exact nI_dayP (Nat.or_lt_two_pow (n := 6) ha hb) (by omega)
theorem bit64 {f : Int32} (h : dayP f 6) : dayP (1 <<< (f &&& 31)) 64 := by
  obtain ⟨j, hj, rfl⟩ := dayP_nI h
  rw [nI_shl1 (by omega)]
  exact nI_dayP (show 2 ^ j < 2 ^ 6 from Nat.pow_lt_pow_right (by omega) hj) (by omega)
theorem teV_ok {V : pV} {n nn np nt a : Nat} {f : Int32} (h : okV V n nn np nt) (hf : dayP f 6) : okV (teV V a f) n nn np nt := by
  refine ⟨fun d hd => ?_, h.2.1, h.2.2.1, h.2.2.2⟩
  obtain ⟨g1, g2, g3, g4, g5⟩ := h.1 d hd
  refine ⟨g1, g2, ?_, g4, g5⟩
  show dayP (fd_up V 3 a _ 3 d) 64
  rw [fd_up_at]
  split
  · next e => rw [← e]; exact or64 g3 (bit64 hf)
  · exact g3
theorem c_X11_promise (V : pV) (α : Nat → Nat) (I : fdI) (L : fdL) (f a b : Int32) {n nn np nt : Nat} (h : mOk V I n nn np nt) : Con fd_SM α yX11_promise mX11_promise [.ref (α 0), .int f, .int a, .int b] I L (fd_ip (fun v I' L' => ((dayP f 6 ∧ dayP a n ∧ dayP b n ∧ ¬ a = b) → v = .int 1 ∧ mSm I I' ∧ L' = raL L (smN (prS V n nn f a.toNatClampNeg b.toNatClampNeg) (fac n)) (fac n)) ∧ (¬ (dayP f 6 ∧ dayP a n ∧ dayP b n ∧ ¬ a = b) → v = .int (-2) ∧ I' = mBad I ∧ L' = L))) := by
  refine Con.of (by decide) rfl (Nat.le_of_ble_eq_true rfl) ?_
  have hn7 := h.2.1
  have hf := fac_le hn7.2
  have hf0 := fac_pos n
  by_cases hok : dayP f 6 ∧ dayP a n ∧ dayP b n ∧ ¬ a = b
  · obtain ⟨ok1, ok2, ok3, ok4⟩ := id hok
    obtain ⟨a, ha, rfl⟩ := dayP_nI ok2
    obtain ⟨b, hb, rfl⟩ := dayP_nI ok3
    rw [nI_clamp (n := a) (by omega), nI_clamp (n := b) (by omega)]
    have hsm := smN_le (prS V n nn f a b) 1 (fun r => biN_le _ _) 
    have hV : V 3 a = I 4 a := (h.2.2.2.2.2.2.2.2.1.1 a ha).2.2.1.symm
    -- the life with the fact taught
    have hJ : mOk (teV V a f) (fd_up I 4 a (I 4 a ||| 1 <<< (f &&& 31))) n nn np nt := by
      obtain ⟨a1, a2, a3, a4, a5, a6, a7, a8, a9, a10⟩ := id h
      refine ⟨a1, a2, a3, a4, a5, a6, a7, a8, ⟨fun d hd => ?_, a9.2.1, a9.2.2.1, a9.2.2.2⟩, teV_ok a10 ok1⟩
      obtain ⟨g1, g2, g3, g4, g5⟩ := a9.1 d hd
      refine ⟨g1, g2, ?_, g4, g5⟩
      show fd_up I 4 a _ 4 d = fd_up V 3 a _ 3 d
      rw [fd_up_at, fd_up_at, hV]
      split
      · rfl
      · exact g3
    have loop : ∀ r, r ≤ fac n → ∀ I1 : fdI, trI (fd_up I 4 a (I 4 a ||| 1 <<< (f &&& 31))) I1 n r → ∀ L1 : fdL, L1 = L → Rn fd_SM α mX11_promise 68 [(7, .int (nI r)), (5, .long (lN (smN (prS V n nn f a b) r))), (4, .int (I 4 a)), (0, .ref (α 0)), (1, .int f), (2, .int (nI a)), (3, .int (nI b))] [] I1 L1 (fd_ip (fun v I' L' => ((dayP f 6 ∧ dayP (nI a) n ∧ dayP (nI b) n ∧ ¬ nI a = nI b) → v = .int 1 ∧ mSm I I' ∧ L' = raL L (smN (prS V n nn f a b) (fac n)) (fac n)) ∧ (¬ (dayP f 6 ∧ dayP (nI a) n ∧ dayP (nI b) n ∧ ¬ nI a = nI b) → v = .int (-2) ∧ I' = mBad I ∧ L' = L))) := by
      refine fd_down (fun r hr ih => ?_)
      intro I1 t1 L1 e1
      have h1 := hJ.sm t1.1
      have hs1 := hsm r
      by_cases hx : r = fac n
      · subst hx
        subst e1
        refine r_iload dX11_promise_68 rfl ?_
        refine r_aload_n dX11_promise_70 rfl ?_
        refine r_cVr (As := []) (c_X11_orders α _ _ h1.1 hn7) lk_11_147 rfl rfl (by decide) (by decide) rfl rfl (Nat.le_of_ble_eq_true rfl) dX11_promise_71 ?_
        refine r_icmp_ge 115 dX11_promise_74 (by decide) (fun h74 => ?_) (fun h74 => absurd h74 (not_not_intro (Int32.le_refl _)))
        refine r_aload_n dX11_promise_115 rfl ?_
        refine r_getR rfl rfl fl_11_19 dX11_promise_116 ?_
        refine r_iload_n dX11_promise_119 rfl ?_
        refine r_iload dX11_promise_120 rfl ?_
        refine r_iastN rfl dX11_promise_122 (by omega) (by omega) ?_
        refine r_aload_n dX11_promise_123 rfl ?_
        refine r_lload dX11_promise_124 rfl ?_
        refine r_aload_n dX11_promise_126 rfl ?_
        refine r_cVr (As := []) (c_X11_orders α _ _ h1.1 hn7) lk_11_147 rfl rfl (by decide) (by decide) rfl rfl (Nat.le_of_ble_eq_true rfl) dX11_promise_127 ?_
        refine r_i2l dX11_promise_130 rfl ?_
        rw [nI_l (by omega)]
        refine r_cVn (As := [_, _]) (c_X11_tells α _ _ _ _ (by omega) (by omega) (by omega)) lk_11_198 rfl rfl (by decide) (by decide) rfl rfl (Nat.le_of_ble_eq_true rfl) dX11_promise_131 ?_
        refine r_iconst (v := 1) dX11_promise_134 rfl ?_
        refine r_iret rfl dX11_promise_135 ?_
        refine ⟨_, rfl, fun _ => ⟨rfl, ⟨fun c c0 c1 c2 c3 c4 c5 c6 c7 => ?_, fun j hj => ?_⟩, rfl⟩, fun q => absurd hok q⟩
        · by_cases q : c = 4
          · subst q
            funext d
            rw [fd_up_at]
            split
            · next e => rw [e]
            · next e => rw [t1.1.1 4 (by decide) (by decide) (by decide) (by decide) (by decide) (by decide) (by decide) (by decide), fd_up_pl e]
          · rw [fd_up_cell q, t1.1.1 c c0 c1 c2 c3 c4 c5 c6 c7, fd_up_cell q]
        · rw [fd_up_ne (by decide), t1.1.2 j hj, fd_up_ne (by decide)]
      · have hr1 : r < fac n := by omega
        refine r_iload dX11_promise_68 rfl ?_
        refine r_aload_n dX11_promise_70 rfl ?_
        refine r_cVr (As := []) (c_X11_orders α _ _ h1.1 hn7) lk_11_147 rfl rfl (by decide) (by decide) rfl rfl (Nat.le_of_ble_eq_true rfl) dX11_promise_71 ?_
        refine r_icmp_ge 115 dX11_promise_74 (by decide) (fun h74 => absurd h74 (fun q => absurd ((nI_leI (by omega) (by omega)).mp q) (by omega))) (fun h74 => ?_)
        refine r_aload_n dX11_promise_77 rfl ?_
        refine r_aload_n dX11_promise_78 rfl ?_
        refine r_getR rfl rfl fl_11_58 dX11_promise_79 ?_
        refine r_cVq (As := [_]) (c_lives (teV V a f) α _ _ 17 rfl (Or.inr rfl) h1 (t1.2 hr1) (prm_P hn7 hr1)) lk_11_170 rfl rfl (by decide) (by decide) rfl rfl (Nat.le_of_ble_eq_true rfl) dX11_promise_82 (fun I82 L82 q82 => ?_)
        obtain ⟨e82, s82, t82, w82⟩ := q82
        refine r_lload dX11_promise_85 rfl ?_
        refine r_aload_n dX11_promise_87 rfl ?_
        refine r_getR rfl rfl fl_11_52 dX11_promise_88 ?_
        refine r_iload_n dX11_promise_91 rfl ?_
        refine r_ialdN rfl dX11_promise_92 (by omega) (by omega) (w82.1 b hb).2.1 ?_
        refine r_iload_n dX11_promise_93 rfl ?_
        refine r_ishr dX11_promise_94 ?_
        refine r_iconst (v := 1) dX11_promise_95 rfl ?_
        refine r_iand dX11_promise_96 ?_
        refine r_i2l dX11_promise_97 rfl ?_
        rw [biN_l]
        refine r_ladd dX11_promise_98 ?_
        rw [lN_add]
        refine r_lstore (lv' := [(5, _), (7, _), (4, _), (0, _), (1, _), (2, _), (3, _)]) dX11_promise_99 (Nat.le_of_ble_eq_true rfl) rfl ?_
        refine r_aload_n dX11_promise_101 rfl ?_
        refine r_aload_n dX11_promise_102 rfl ?_
        refine r_getR rfl rfl fl_11_58 dX11_promise_103 ?_
        refine r_cVq (As := [_]) (c_turns α _ _ _ (h1.sm s82).1 hn7 hr1 (t1.lives s82 t82.1)) lk_11_184 rfl rfl (by decide) (by decide) rfl rfl (Nat.le_of_ble_eq_true rfl) dX11_promise_106 (fun I106 L106 q106 => ?_)
        obtain ⟨e106, s106, w106⟩ := q106
        refine r_iinc (v := _ + 1) (lv' := [(7, _), (5, _), (4, _), (0, _), (1, _), (2, _), (3, _)]) dX11_promise_109 rfl rfl (Nat.le_of_ble_eq_true rfl) rfl ?_
        refine r_goto (tgt := 68) dX11_promise_112 (by decide) ?_
        rw [nI_1]
        exact r_keep [7, 5, 4, 0, 1, 2, 3] rfl (ih hr1 _ s106 _ (e106.trans (e82.trans e1)))
    refine r_iload_n dX11_promise_0 rfl ?_
    refine r_cSr (As := [_]) (c_X11_isFact α _ _ _) lk_11_128 (by decide) (by decide) rfl rfl (Nat.le_of_ble_eq_true rfl) dX11_promise_1 ?_
    refine r_if_eq 28 dX11_promise_4 (by decide) (fun h4 => absurd h4 (fd_bn.mpr ok1)) (fun h4 => ?_)
    refine r_aload_n dX11_promise_7 rfl ?_
    refine r_iload_n dX11_promise_8 rfl ?_
    refine r_cVr (As := [_]) (c_X11_isDay α _ _ _ h.1 hn7) lk_11_124 rfl rfl (by decide) (by decide) rfl rfl (Nat.le_of_ble_eq_true rfl) dX11_promise_9 ?_
    refine r_if_eq 28 dX11_promise_12 (by decide) (fun h12 => absurd h12 (fd_bn.mpr ok2)) (fun h12 => ?_)
    refine r_aload_n dX11_promise_15 rfl ?_
    refine r_iload_n dX11_promise_16 rfl ?_
    refine r_cVr (As := [_]) (c_X11_isDay α _ _ _ h.1 hn7) lk_11_124 rfl rfl (by decide) (by decide) rfl rfl (Nat.le_of_ble_eq_true rfl) dX11_promise_17 ?_
    refine r_if_eq 28 dX11_promise_20 (by decide) (fun h20 => absurd h20 (fd_bn.mpr ok3)) (fun h20 => ?_)
    refine r_iload_n dX11_promise_23 rfl ?_
    refine r_iload_n dX11_promise_24 rfl ?_
    refine r_icmp_ne 35 dX11_promise_25 (by decide) (fun h25 => ?_) (fun h25 => absurd h25 ok4)
    refine r_aload_n dX11_promise_35 rfl ?_
    refine r_getR rfl rfl fl_11_19 dX11_promise_36 ?_
    refine r_iload_n dX11_promise_39 rfl ?_
    refine r_ialdN rfl dX11_promise_40 (by omega) (by omega) rfl ?_
    refine r_istore (lv' := [(4, _), (0, _), (1, _), (2, _), (3, _)]) dX11_promise_41 (Nat.le_of_ble_eq_true rfl) rfl ?_
    refine r_aload_n dX11_promise_43 rfl ?_
    refine r_getR rfl rfl fl_11_19 dX11_promise_44 ?_
    refine r_iload_n dX11_promise_47 rfl ?_
    refine r_dup2 dX11_promise_48 rfl rfl ?_
    refine r_ialdN rfl dX11_promise_49 (by omega) (by omega) rfl ?_
    refine r_iconst (v := 1) dX11_promise_50 rfl ?_
    refine r_iload_n dX11_promise_51 rfl ?_
    refine r_ishl dX11_promise_52 ?_
    refine r_ior dX11_promise_53 ?_
    refine r_iastN rfl dX11_promise_54 (by omega) (by omega) ?_
    refine r_lconst (v := 0) dX11_promise_55 rfl ?_
    refine r_lstore (lv' := [(5, _), (4, _), (0, _), (1, _), (2, _), (3, _)]) dX11_promise_56 (Nat.le_of_ble_eq_true rfl) rfl ?_
    refine r_aload_n dX11_promise_58 rfl ?_
    refine r_getR rfl rfl fl_11_58 dX11_promise_59 ?_
    refine r_cSq (As := [_]) (c_starts α _ _ hn7) lk_11_178 (by decide) (by decide) rfl rfl (Nat.le_of_ble_eq_true rfl) dX11_promise_62 (fun I62 L62 q62 => ?_)
    obtain ⟨e62, s62⟩ := q62
    refine r_iconst (v := 0) dX11_promise_65 rfl ?_
    refine r_istore (lv' := [(7, _), (5, _), (4, _), (0, _), (1, _), (2, _), (3, _)]) dX11_promise_66 (Nat.le_of_ble_eq_true rfl) rfl ?_
    exact r_keep [7, 5, 4, 0, 1, 2, 3] rfl (loop 0 (by omega) _ s62 _ e62)
  · refine r_iload_n dX11_promise_0 rfl ?_
    refine r_cSr (As := [_]) (c_X11_isFact α _ _ _) lk_11_128 (by decide) (by decide) rfl rfl (Nat.le_of_ble_eq_true rfl) dX11_promise_1 ?_
    refine r_if_eq 28 dX11_promise_4 (by decide) (fun h4 => ?_) (fun h4 => ?_)
    · refine r_aload_n dX11_promise_28 rfl ?_
      refine r_bipush (v := (-2)) dX11_promise_29 rfl ?_
      refine r_cVr (As := [_]) (c_X11_bad α _ _ _) lk_11_120 rfl rfl (by decide) (by decide) rfl rfl (Nat.le_of_ble_eq_true rfl) dX11_promise_31 ?_
      refine r_iret rfl dX11_promise_34 ?_
      exact ⟨_, rfl, fun q => absurd q hok, fun _ => ⟨rfl, rfl, rfl⟩⟩
    · refine r_aload_n dX11_promise_7 rfl ?_
      refine r_iload_n dX11_promise_8 rfl ?_
      refine r_cVr (As := [_]) (c_X11_isDay α _ _ _ h.1 hn7) lk_11_124 rfl rfl (by decide) (by decide) rfl rfl (Nat.le_of_ble_eq_true rfl) dX11_promise_9 ?_
      refine r_if_eq 28 dX11_promise_12 (by decide) (fun h12 => ?_) (fun h12 => ?_)
      · refine r_aload_n dX11_promise_28 rfl ?_
        refine r_bipush (v := (-2)) dX11_promise_29 rfl ?_
        refine r_cVr (As := [_]) (c_X11_bad α _ _ _) lk_11_120 rfl rfl (by decide) (by decide) rfl rfl (Nat.le_of_ble_eq_true rfl) dX11_promise_31 ?_
        refine r_iret rfl dX11_promise_34 ?_
        exact ⟨_, rfl, fun q => absurd q hok, fun _ => ⟨rfl, rfl, rfl⟩⟩
      · refine r_aload_n dX11_promise_15 rfl ?_
        refine r_iload_n dX11_promise_16 rfl ?_
        refine r_cVr (As := [_]) (c_X11_isDay α _ _ _ h.1 hn7) lk_11_124 rfl rfl (by decide) (by decide) rfl rfl (Nat.le_of_ble_eq_true rfl) dX11_promise_17 ?_
        refine r_if_eq 28 dX11_promise_20 (by decide) (fun h20 => ?_) (fun h20 => ?_)
        · refine r_aload_n dX11_promise_28 rfl ?_
          refine r_bipush (v := (-2)) dX11_promise_29 rfl ?_
          refine r_cVr (As := [_]) (c_X11_bad α _ _ _) lk_11_120 rfl rfl (by decide) (by decide) rfl rfl (Nat.le_of_ble_eq_true rfl) dX11_promise_31 ?_
          refine r_iret rfl dX11_promise_34 ?_
          exact ⟨_, rfl, fun q => absurd q hok, fun _ => ⟨rfl, rfl, rfl⟩⟩
        · refine r_iload_n dX11_promise_23 rfl ?_
          refine r_iload_n dX11_promise_24 rfl ?_
          refine r_icmp_ne 35 dX11_promise_25 (by decide) (fun h25 => absurd h25 (fun q => hok ⟨fd_bn.mp h4, fd_bn.mp h12, fd_bn.mp h20, q⟩)) (fun h25 => ?_)
          refine r_aload_n dX11_promise_28 rfl ?_
          refine r_bipush (v := (-2)) dX11_promise_29 rfl ?_
          refine r_cVr (As := [_]) (c_X11_bad α _ _ _) lk_11_120 rfl rfl (by decide) (by decide) rfl rfl (Nat.le_of_ble_eq_true rfl) dX11_promise_31 ?_
          refine r_iret rfl dX11_promise_34 ?_
          exact ⟨_, rfl, fun q => absurd q hok, fun _ => ⟨rfl, rfl, rfl⟩⟩
/-- a set without what is not lived ahead of d -/
def muM (p : Nat → Nat) (n d e : Nat) : Int32 := if ps p n e < ps p n d then -1 else (1 <<< (nI e &&& 31)) ^^^ (-1 : Int32)
def muI (p : Nat → Nat) (n d : Nat) (S : Int32) : Nat → Int32
  | 0 => S
  | e + 1 => muI p n d S e &&& muM p n d e
def muS (V : pV) (n nn np d : Nat) : Nat → Int32
  | 0 => 1 <<< (nI n &&& 31) - 1
  | r + 1 => if hgV V n nn np r then muI (prm n r) n d (muS V n nn np d r) n else muS V n nn np d r
/-- must's end -/
def muP (V : pV) (n nn np : Nat) (d : Int32) (I : fdI) (L : fdL) (v : Value) (I' : fdI) (L' : fdL) : Prop := L' = L ∧ (¬ dayP d n → v = .int (-2) ∧ I' = mBad I) ∧ (dayP d n → (orB (hgV V n nn np) (fac n) = true → v = .int (muS V n nn np d.toNatClampNeg (fac n)) ∧ mSm I I') ∧ (orB (hgV V n nn np) (fac n) = false → v = .int (-3) ∧ ∃ J, mSm I J ∧ I' = mNo J))
theorem c_X11_must (V : pV) (α : Nat → Nat) (I : fdI) (L : fdL) (d : Int32) {n nn np nt : Nat} (h : mOk V I n nn np nt) : Con fd_SM α yX11_must mX11_must [.ref (α 0), .int d] I L (fd_ip (muP V n nn np d I L)) := by
  refine Con.of (by decide) rfl (Nat.le_of_ble_eq_true rfl) ?_
  have hn7 := h.2.1
  have hf := fac_le hn7.2
  by_cases hok : dayP d n
  · obtain ⟨j, hj, rfl⟩ := dayP_nI hok
    have ej : (nI j).toNatClampNeg = j := nI_clamp (by omega)
    have loop : ∀ r, r ≤ fac n → ∀ I1 : fdI, trI I I1 n r → ∀ L1 : fdL, L1 = L → Rn fd_SM α mX11_must 36 [(4, .int (nI r)), (3, .int (fd_b (orB (hgV V n nn np) r = true))), (2, .int (muS V n nn np j r)), (0, .ref (α 0)), (1, .int (nI j))] [] I1 L1 (fd_ip (muP V n nn np (nI j) I L)) := by
      refine fd_down (fun r hr ih => ?_)
      intro I1 t1 L1 e1
      have h1 := h.sm t1.1
      by_cases hx : r = fac n
      · subst hx
        refine r_iload dX11_must_36 rfl ?_
        refine r_aload_n dX11_must_38 rfl ?_
        refine r_cVr (As := []) (c_X11_orders α _ _ h1.1 hn7) lk_11_147 rfl rfl (by decide) (by decide) rfl rfl (Nat.le_of_ble_eq_true rfl) dX11_must_39 ?_
        refine r_icmp_ge 123 dX11_must_42 (by decide) (fun h42 => ?_) (fun h42 => absurd h42 (not_not_intro (Int32.le_refl _)))
        refine r_iload_n dX11_must_123 rfl ?_
        refine r_if_eq 131 dX11_must_124 (by decide) (fun h124 => ?_) (fun h124 => ?_)
        · have z := fd_b0.mp h124
          refine r_aload_n dX11_must_131 rfl ?_
          refine r_cVr (As := []) (c_X11_no α _ _) lk_11_131 rfl rfl (by decide) (by decide) rfl rfl (Nat.le_of_ble_eq_true rfl) dX11_must_132 ?_
          refine r_iret rfl dX11_must_135 ?_
          first
            | exact fin
            | exact ⟨_, rfl, e1, fun q => absurd hok q, fun _ => ⟨fun q => absurd q z, fun _ => ⟨rfl, _, t1.1, rfl⟩⟩⟩
        · have z := fd_bn.mp h124
          have fin : fd_ip (muP V n nn np (nI j) I L) (some (.int (muS V n nn np j (fac n)))) I1 L1 := ⟨_, rfl, e1, fun q => absurd hok q, fun _ => ⟨fun _ => ⟨by rw [ej], t1.1⟩, fun q => absurd z (by rw [q]; decide)⟩⟩
          refine r_iload_n dX11_must_127 rfl ?_
          refine r_goto (tgt := 135) dX11_must_128 (by decide) ?_
          refine r_iret rfl dX11_must_135 ?_
          first
            | exact fin
            | exact ⟨_, rfl, e1, fun q => absurd hok q, fun _ => ⟨fun q => absurd q z, fun _ => ⟨rfl, _, t1.1, rfl⟩⟩⟩
      · have hr1 : r < fac n := by omega
        have ih := ih hr1
        have go : ∀ I2 : fdI, trI I I2 n r → ∀ L2 : fdL, L2 = L → Rn fd_SM α mX11_must 109 [(4, .int (nI r)), (3, .int (fd_b (orB (hgV V n nn np) (r + 1) = true))), (2, .int (muS V n nn np j (r + 1))), (0, .ref (α 0)), (1, .int (nI j))] [] I2 L2 (fd_ip (muP V n nn np (nI j) I L)) := by
          intro I2 t2 L2 e2
          refine r_aload_n dX11_must_109 rfl ?_
          refine r_aload_n dX11_must_110 rfl ?_
          refine r_getR rfl rfl fl_11_58 dX11_must_111 ?_
          refine r_cVq (As := [_]) (c_turns α I _ _ (h.sm t2.1).1 hn7 hr1 t2) lk_11_184 rfl rfl (by decide) (by decide) rfl rfl (Nat.le_of_ble_eq_true rfl) dX11_must_114 (fun I114 L114 q114 => ?_)
          obtain ⟨e114, s114, w114⟩ := q114
          refine r_iinc (v := _ + 1) (lv' := [(4, _), (3, _), (2, _), (0, _), (1, _)]) dX11_must_117 rfl rfl (Nat.le_of_ble_eq_true rfl) rfl ?_
          refine r_goto (tgt := 36) dX11_must_120 (by decide) ?_
          rw [nI_1]
          exact r_keep [4, 3, 2, 0, 1] rfl (ih _ s114 _ (e114.trans e2))
        have inner : hgV V n nn np r = true → ∀ I2 : fdI, trI I I2 n r → (∀ d, d < n → I2 16 d = nI (ps (prm n r) n d)) → ∀ L2 : fdL, L2 = L → ∀ e, e ≤ n → Rn fd_SM α mX11_must 65 [(5, .int (nI e)), (4, .int (nI r)), (3, .int 1), (2, .int (muI (prm n r) n j (muS V n nn np j r) e)), (0, .ref (α 0)), (1, .int (nI j))] [] I2 L2 (fd_ip (muP V n nn np (nI j) I L)) := by
          intro hg I2 t2 w2 L2 e2
          have h2 := h.sm t2.1
          refine fd_down (fun e he ihe => ?_)
          by_cases hxe : e = n
          · subst hxe
            refine r_iload dX11_must_65 rfl ?_
            refine r_aload_n dX11_must_67 rfl ?_
            refine r_getV rfl rfl fl_11_93 dX11_must_68 h2.1 ?_
            refine r_icmp_ge 109 dX11_must_71 (by decide) (fun h71 => ?_) (fun h71 => absurd h71 (not_not_intro (Int32.le_refl _)))
            have g := go _ t2 _ e2
            rw [fd_b_t (by unfold orB; rw [hg, Bool.or_true]), show muS V e nn np j (r + 1) = muI (prm e r) e j (muS V e nn np j r) e from if_pos hg] at g
            exact r_keep [4, 3, 2, 0, 1] rfl g
          · have hen : e < n := by omega
            have pe := (ps_lt (prm_P hn7 hr1) hen).1
            have pj := (ps_lt (prm_P hn7 hr1) hj).1
            refine r_iload dX11_must_65 rfl ?_
            refine r_aload_n dX11_must_67 rfl ?_
            refine r_getV rfl rfl fl_11_93 dX11_must_68 h2.1 ?_
            refine r_icmp_ge 109 dX11_must_71 (by decide) (fun h71 => absurd h71 (fun q => absurd ((nI_leI (by omega) (by omega)).mp q) (by omega))) (fun h71 => ?_)
            refine r_iload_n dX11_must_74 rfl ?_
            refine r_aload_n dX11_must_75 rfl ?_
            refine r_getR rfl rfl fl_11_55 dX11_must_76 ?_
            refine r_iload dX11_must_79 rfl ?_
            refine r_ialdN rfl dX11_must_81 (by omega) (by omega) (w2 e hen) ?_
            refine r_aload_n dX11_must_82 rfl ?_
            refine r_getR rfl rfl fl_11_55 dX11_must_83 ?_
            refine r_iload_n dX11_must_86 rfl ?_
            refine r_ialdN rfl dX11_must_87 (by omega) (by omega) (w2 j hj) ?_
            refine r_icmp_ge 95 dX11_must_88 (by decide) (fun h88 => ?_) (fun h88 => ?_)
            · have ev : muI (prm n r) n j (muS V n nn np j r) e &&& ((1 <<< (nI e &&& 31)) ^^^ -1) = muI (prm n r) n j (muS V n nn np j r) (e + 1) := by
                show _ = _ &&& muM _ _ _ _
                unfold muM
                rw [if_neg (fun q => absurd ((nI_leI (by omega) (by omega)).mp h88) (by omega))]
              refine r_iconst (v := 1) dX11_must_95 rfl ?_
              refine r_iload dX11_must_96 rfl ?_
              refine r_ishl dX11_must_98 ?_
              refine r_iconst (v := (-1)) dX11_must_99 rfl ?_
              refine r_ixor dX11_must_100 ?_
              refine r_iand dX11_must_101 ?_
              rw [ev]
              refine r_istore_n (lv' := [(2, _), (5, _), (4, _), (3, _), (0, _), (1, _)]) dX11_must_102 (Nat.le_of_ble_eq_true rfl) rfl ?_
              refine r_iinc (v := _ + 1) (lv' := [(5, _), (2, _), (4, _), (3, _), (0, _), (1, _)]) dX11_must_103 rfl rfl (Nat.le_of_ble_eq_true rfl) rfl ?_
              refine r_goto (tgt := 65) dX11_must_106 (by decide) ?_
              rw [nI_1]
              exact r_keep [5, 4, 3, 2, 0, 1] rfl (ihe hen)
            · have ev : muI (prm n r) n j (muS V n nn np j r) e &&& -1 = muI (prm n r) n j (muS V n nn np j r) (e + 1) := by
                show _ = _ &&& muM _ _ _ _
                unfold muM
                rw [if_pos (Nat.lt_of_not_le fun q => h88 ((nI_leI (by omega) (by omega)).mpr q))]
              refine r_iconst (v := (-1)) dX11_must_91 rfl ?_
              refine r_goto (tgt := 101) dX11_must_92 (by decide) ?_
              refine r_iand dX11_must_101 ?_
              rw [ev]
              refine r_istore_n (lv' := [(2, _), (5, _), (4, _), (3, _), (0, _), (1, _)]) dX11_must_102 (Nat.le_of_ble_eq_true rfl) rfl ?_
              refine r_iinc (v := _ + 1) (lv' := [(5, _), (2, _), (4, _), (3, _), (0, _), (1, _)]) dX11_must_103 rfl rfl (Nat.le_of_ble_eq_true rfl) rfl ?_
              refine r_goto (tgt := 65) dX11_must_106 (by decide) ?_
              rw [nI_1]
              exact r_keep [5, 4, 3, 2, 0, 1] rfl (ihe hen)
        refine r_iload dX11_must_36 rfl ?_
        refine r_aload_n dX11_must_38 rfl ?_
        refine r_cVr (As := []) (c_X11_orders α _ _ h1.1 hn7) lk_11_147 rfl rfl (by decide) (by decide) rfl rfl (Nat.le_of_ble_eq_true rfl) dX11_must_39 ?_
        refine r_icmp_ge 123 dX11_must_42 (by decide) (fun h42 => absurd h42 (fun q => absurd ((nI_leI (by omega) (by omega)).mp q) (by omega))) (fun h42 => ?_)
        refine r_aload_n dX11_must_45 rfl ?_
        refine r_aload_n dX11_must_46 rfl ?_
        refine r_getR rfl rfl fl_11_58 dX11_must_47 ?_
        refine r_cVq (As := [_]) (c_lives V α _ _ 17 rfl (Or.inr rfl) h1 (t1.2 hr1) (prm_P hn7 hr1)) lk_11_170 rfl rfl (by decide) (by decide) rfl rfl (Nat.le_of_ble_eq_true rfl) dX11_must_50 (fun I50 L50 q50 => ?_)
        obtain ⟨e50, s50, t50, w50⟩ := q50
        refine r_aload_n dX11_must_53 rfl ?_
        refine r_cVr (As := []) (c_doesHang V α _ _ (h1.sm s50) w50 (prm_P hn7 hr1)) lk_11_181 rfl rfl (by decide) (by decide) rfl rfl (Nat.le_of_ble_eq_true rfl) dX11_must_54 ?_
        refine r_if_eq 109 dX11_must_57 (by decide) (fun h57 => ?_) (fun h57 => ?_)
        · have z : ¬ hgV V n nn np r = true := fd_b0.mp h57
          have g := go _ (t1.lives s50 t50.1) _ (e50.trans e1)
          rw [show orB (hgV V n nn np) (r + 1) = orB (hgV V n nn np) r from by unfold orB; rw [Bool.eq_false_iff.mpr z, Bool.or_false]; cases r <;> rfl, show muS V n nn np j (r + 1) = muS V n nn np j r from if_neg z] at g
          exact r_keep [4, 3, 2, 0, 1] rfl g
        · have z : hgV V n nn np r = true := fd_bn.mp h57
          refine r_iconst (v := 1) dX11_must_60 rfl ?_
          refine r_istore_n (lv' := [(3, _), (4, _), (2, _), (0, _), (1, _)]) dX11_must_61 (Nat.le_of_ble_eq_true rfl) rfl ?_
          refine r_iconst (v := 0) dX11_must_62 rfl ?_
          refine r_istore (lv' := [(5, _), (3, _), (4, _), (2, _), (0, _), (1, _)]) dX11_must_63 (Nat.le_of_ble_eq_true rfl) rfl ?_
          exact r_keep [5, 4, 3, 2, 0, 1] rfl (inner z _ (t1.lives s50 t50.1) (fun d hd => (w50.1 d hd).1) _ (e50.trans e1) 0 (by omega))
    refine r_aload_n dX11_must_0 rfl ?_
    refine r_iload_n dX11_must_1 rfl ?_
    refine r_cVr (As := [_]) (c_X11_isDay α _ _ _ h.1 hn7) lk_11_124 rfl rfl (by decide) (by decide) rfl rfl (Nat.le_of_ble_eq_true rfl) dX11_must_2 ?_
    refine r_if_ne 15 dX11_must_5 (by decide) (fun h5 => ?_) (fun h5 => absurd h5 (fd_bn.mpr hok))
    refine r_iconst (v := 1) dX11_must_15 rfl ?_
    refine r_aload_n dX11_must_16 rfl ?_
    refine r_getV rfl rfl fl_11_93 dX11_must_17 h.1 ?_
    refine r_ishl dX11_must_20 ?_
    refine r_iconst (v := 1) dX11_must_21 rfl ?_
    refine r_isub dX11_must_22 ?_
    refine r_istore_n (lv' := [(2, _), (0, _), (1, _)]) dX11_must_23 (Nat.le_of_ble_eq_true rfl) rfl ?_
    refine r_iconst (v := 0) dX11_must_24 rfl ?_
    refine r_istore_n (lv' := [(3, _), (2, _), (0, _), (1, _)]) dX11_must_25 (Nat.le_of_ble_eq_true rfl) rfl ?_
    refine r_aload_n dX11_must_26 rfl ?_
    refine r_getR rfl rfl fl_11_58 dX11_must_27 ?_
    refine r_cSq (As := [_]) (c_starts α _ _ hn7) lk_11_178 (by decide) (by decide) rfl rfl (Nat.le_of_ble_eq_true rfl) dX11_must_30 (fun I30 L30 q30 => ?_)
    obtain ⟨e30, s30⟩ := q30
    refine r_iconst (v := 0) dX11_must_33 rfl ?_
    refine r_istore (lv' := [(4, _), (3, _), (2, _), (0, _), (1, _)]) dX11_must_34 (Nat.le_of_ble_eq_true rfl) rfl ?_
    exact r_keep [4, 3, 2, 0, 1] rfl (loop 0 (by omega) _ s30 _ e30)
  · refine r_aload_n dX11_must_0 rfl ?_
    refine r_iload_n dX11_must_1 rfl ?_
    refine r_cVr (As := [_]) (c_X11_isDay α _ _ _ h.1 hn7) lk_11_124 rfl rfl (by decide) (by decide) rfl rfl (Nat.le_of_ble_eq_true rfl) dX11_must_2 ?_
    refine r_if_ne 15 dX11_must_5 (by decide) (fun h5 => absurd h5 (not_not_intro (fd_b0.mpr hok))) (fun h5 => ?_)
    refine r_aload_n dX11_must_8 rfl ?_
    refine r_bipush (v := (-2)) dX11_must_9 rfl ?_
    refine r_cVr (As := [_]) (c_X11_bad α _ _ _) lk_11_120 rfl rfl (by decide) (by decide) rfl rfl (Nat.le_of_ble_eq_true rfl) dX11_must_11 ?_
    refine r_iret rfl dX11_must_14 ?_
    exact ⟨_, rfl, rfl, fun _ => ⟨rfl, rfl⟩, fun q => absurd q hok⟩
