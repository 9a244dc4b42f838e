/-! FormSearch: the search itself -/
theorem ext_T {P : List It} {F : Nat → Nat} {A : Ac} {j : Nat} (hj : j < P.length) (hT : isT P j) : ext P (P.length - j) F A = ext P (P.length - (j + 1)) (upF F j 2) (ext P (P.length - (j + 1)) (upF F j 1) (ext P (P.length - (j + 1)) (upF F j 0) A)) := by
  rw [show P.length - j = (P.length - (j + 1)) + 1 by omega, ext, show P.length - (P.length - (j + 1) + 1) = j by omega, if_pos hT]
/-- the first k forms of the transfer j have been tried -/
def exK (P : List It) (F : Nat → Nat) (j : Nat) (A : Ac) : Nat → Ac
  | 0 => A
  | k + 1 => ext P (P.length - (j + 1)) (upF F j k) (exK P F j A k)
theorem exK_3 {P : List It} {F : Nat → Nat} {A : Ac} {j : Nat} (hj : j < P.length) (hT : isT P j) : exK P F j A 3 = ext P (P.length - j) F A := by
  rw [ext_T hj hT]; rfl
theorem exK_ok {P : List It} (h : okP P) {F : Nat → Nat} {A : Ac} {j : Nat} (hj : j < P.length) (hT : isT P j) (hCF : CF P F j) (hA : okA P A) : ∀ k, k ≤ 3 → okA P (exK P F j A k) ∧ (exK P F j A k).1 ≤ A.1 + k * 3 ^ rT P (P.length - (j + 1))
  | 0, _ => ⟨hA, by simp [exK]⟩
  | k + 1, hk => by
    obtain ⟨a, b⟩ := exK_ok h hj hT hCF hA k (by omega)
    have hC := upF_CF hCF hT (f := k) (by omega)
    obtain ⟨c, d⟩ := ext_ok h (P.length - (j + 1)) (upF F j k) _ (by omega) (fun q => ⟨hC.2.2 q, hC.2.1 q⟩) a
    refine ⟨c, ?_⟩
    rw [Nat.succ_mul]
    rw [exK]
    omega
theorem FB.so {σ τ : Sg} {P : List It} {F : Nat → Nat} {i : Nat} {A : Ac} (h : FB σ P F i A) (hs : SO σ τ 64 64) (ha : ∀ q : Nat, q < i → τ 64 (q : Int) = (ad0 P F q : Int)) : FB τ P F i A := by
  obtain ⟨b1, b2, b3, b4, b5⟩ := h
  refine ⟨ha, fun q hq hh => by rw [hs 65 (by omega)]; exact b2 q hq hh, by rw [hs 63 (by omega)]; exact b3, by rw [hs 63 (by omega)]; exact b4, fun q hq => by rw [hs 66 (by omega)]; exact b5 q hq⟩
def TFc (m : Nat) : Prop := ∀ (g : Gm) (l : Launch) (σ : Sg) (P : List It) (F : Nat → Nat) (A : Ac) (i dp : Nat) (hP : PR σ 0 P) (hL : LR σ P) (hu : udf P = 0) (hi : i ≤ P.length) (hCF : CF P F i) (hCK : CK P F i) (hB : FB σ P F i A) (hA : okA P A) (hA1 : A.1 + 3 ^ m ≤ 20000) (hm : rT P (P.length - i) ≤ m) (hdp : dp + rT P (P.length - i) ≤ 8), KV g l yX1_tryFrom cX1_tryFrom 5 (5 + 2 * m) 0 0 [.inr 63, .inl (i : Int), .inl (ad0 P F i : Int), .inl (dp : Int)] σ (fun σ' => FB σ' P F i (ext P (P.length - i) F A) ∧ SO σ σ' 63 66)
def TSc (m : Nat) : Prop := ∀ (g : Gm) (l : Launch) (σ : Sg) (P : List It) (F : Nat → Nat) (A : Ac) (j dp : Nat) (hP : PR σ 0 P) (hL : LR σ P) (hu : udf P = 0) (hj : j < P.length) (hT : isT P j) (hCF : CF P F j) (hCK : CK P F j) (hB : FB σ P F j A) (ha : σ 64 (j : Int) = (ad0 P F j : Int)) (hA : okA P A) (hA1 : A.1 + 3 ^ m ≤ 20000) (hm : rT P (P.length - j) ≤ m) (hdp : dp + rT P (P.length - j) ≤ 8), KV g l yX1_tryForms cX1_tryForms 6 (4 + 2 * m) 0 0 [.inr 63, .inl (j : Int), .inl (dp : Int)] σ (fun σ' => FB σ' P F j (ext P (P.length - j) F A) ∧ SO σ σ' 63 66)
set_option maxRecDepth 20000 in
set_option maxHeartbeats 400000 in
theorem c_X1_tryForms (g : Gm) (l : Launch) {σ : Sg} {P : List It} {F : Nat → Nat} {A : Ac} {j dp m : Nat} (IH : TFc m) (hP : PR σ 0 P) (hL : LR σ P) (hu : udf P = 0) (hj : j < P.length) (hT : isT P j) (hCF : CF P F j) (hCK : CK P F j) (hB : FB σ P F j A) (ha : σ 64 (j : Int) = (ad0 P F j : Int)) (hA : okA P A) (hA1 : A.1 + 3 ^ (m + 1) ≤ 20000) (hm : rT P (P.length - j) ≤ m + 1) (hdp : dp + rT P (P.length - j) ≤ 8) : KV g l yX1_tryForms cX1_tryForms 6 (4 + 2 * (m + 1)) 0 0 [.inr 63, .inl (j : Int), .inl (dp : Int)] σ (fun σ' => FB σ' P F j (ext P (P.length - j) F A) ∧ SO σ σ' 63 66) := by
  refine startV (own := RX1) (by decide +kernel) rfl (Nat.le_of_ble_eq_true rfl) ?_
  intro X hx _ _ hret
  obtain ⟨hok, hc, hg9⟩ := id hP
  have hn := hok.1
  have hr := rT_T hj hT
  have hbd := aP_le hok F (i := j) (by omega)
  have hpw : 3 ^ rT P (P.length - (j + 1)) ≤ 3 ^ m := Nat.pow_le_pow_right (by decide) (by omega)
  rw [Nat.pow_succ] at hA1
  refine gx_aload_n hx dX1_tryForms_0 rfl ?_
  refine gx_getR hx flX1_9 dX1_tryForms_1 (by decide) rfl rfl ?_
  refine gx_iload_n hx dX1_tryForms_4 rfl ?_
  refine gx_iald hx dX1_tryForms_5 (by decide) rfl (by omega) (by omega) (by decide) ?_
  refine gx_istore_n hx dX1_tryForms_6 (Nat.le_of_ble_eq_true rfl) ?_
  rw [ha]
  refine gx_iconst hx dX1_tryForms_7 ?_
  refine gx_istore hx dX1_tryForms_8 (Nat.le_of_ble_eq_true rfl) ?_
  refine gx_loop (α := Nat × Sg) (fun x => x.1 ≤ 3 ∧ FB x.2 P F j (exK P F j A x.1) ∧ x.2 64 (j : Int) = (ad0 P F j : Int) ∧ SO σ x.2 63 66) (fun x => 3 - x.1) (fun x => [some (.inr 63), some (.inl (j : Int)), some (.inl (dp : Int)), some (.inl (ad0 P F j : Int)), some (.inl (x.1 : Int)), none]) (fun _ => []) (fun x => x.2) ?_ (0, σ) ⟨Nat.zero_le _, hB, ha, SO.refl⟩
  rintro ⟨f, τ⟩ ⟨hf, hBf, haj, hso⟩ ih
  dsimp only at hf hBf haj hso ih ⊢
  refine gx_iload hx dX1_tryForms_10 rfl ?_
  refine gx_iconst hx dX1_tryForms_12 ?_
  refine gx_icmp_gt (tgt := 69) hx dX1_tryForms_13 (by decide) ⟨by omega, by omega⟩ ⟨by omega, by omega⟩ (fun h13 => ?_) (fun h13 => ?_)
  · first
    | (exfalso; omega)
    | (refine hret _ _ _ _ _ (by decide) (by decide) dX1_tryForms_69 ?_
       have ef : f = 3 := by omega
       subst ef
       rw [exK_3 hj hT] at hBf
       exact ⟨hBf, hso⟩)
  · first
    | (exfalso; omega)
    | (refine gx_iload_n hx dX1_tryForms_16 rfl ?_
       refine gx_aload_n hx dX1_tryForms_17 rfl ?_
       refine gx_getR hx flX1_36 dX1_tryForms_18 (by decide) rfl rfl ?_
       refine gx_iload_n hx dX1_tryForms_21 rfl ?_
       refine gx_iload hx dX1_tryForms_22 rfl ?_
       refine gx_iload_n hx dX1_tryForms_24 rfl ?_
       refine gx_callI hx (c_X4_sizeWith (i := j) (f := f) (a := ad0 P F j) _ _ (hP.so hso (by decide)) (hL.so (fun k a1 a2 => hso k (by omega))) hj (by omega) (by omega)) lkX1_71 mwX4_sizeWith dX1_tryForms_25 (by decide) rfl rfl rfl rfl (Nat.le_of_ble_eq_true rfl) (by omega) ⟨by decide, by decide⟩ (fun z_25 σ_25 hz_25 => ?_)
       obtain ⟨rfl, rfl⟩ := hz_25
       refine gx_iadd hx dX1_tryForms_28 ?_
       rw [show (ad0 P F j : Int) + (sz P j f (ad0 P F j) : Int) = (ad0 P (upF F j f) (j + 1) : Int) by
         rw [ad0, ad0_congr (F := upF F j f) (G := F) j (fun q hq => upF_lt hq), upF_at]; omega]
       have hso2 : SO σ (upd2 τ 65 (j : Int) (f : Int)) 63 66 := hso.trans (SO.upd (by decide) (by decide))
       refine gx_istore hx dX1_tryForms_29 (Nat.le_of_ble_eq_true rfl) ?_
       refine gx_aload_n hx dX1_tryForms_31 rfl ?_
       refine gx_getR hx flX1_15 dX1_tryForms_32 (by decide) rfl rfl ?_
       refine gx_iload_n hx dX1_tryForms_35 rfl ?_
       refine gx_iload hx dX1_tryForms_36 rfl ?_
       refine gx_iast hx dX1_tryForms_38 (by decide) rfl (by omega) (by omega) (by decide) ?_
       refine gx_aload_n hx dX1_tryForms_39 rfl ?_
       refine gx_iload_n hx dX1_tryForms_40 rfl ?_
       refine gx_iload hx dX1_tryForms_41 rfl ?_
       refine gx_iload hx dX1_tryForms_43 rfl ?_
       refine gx_callI hx (c_X1_fitsBackward (F := F) (j := j) (f := f) _ _ (hP.so hso2 (by decide)) (hL.so (fun k a1 a2 => hso2 k (by omega))) hu hj hT (by omega) (fun q hq => by rw [upd2_ne (by omega)]; by_cases e : q = j; (subst e; exact haj); exact hBf.1 q (by omega))) lkX1_77 mwX1_fitsBackward dX1_tryForms_45 (by decide) rfl rfl rfl rfl (Nat.le_of_ble_eq_true rfl) (by omega) ⟨by decide, by decide⟩ (fun z_45 σ_45 hz_45 => ?_)
       obtain ⟨d9, rfl⟩ := hz_45
       refine gx_if_eq (tgt := 63) hx dX1_tryForms_48 (by decide) ⟨by omega, by omega⟩ (fun h48 => ?_) (fun h48 => ?_)
       · first
         | (exfalso; omega)
         | (refine gx_iinc hx dX1_tryForms_63 (Nat.le_of_ble_eq_true rfl) rfl ?_
            refine gx_goto (tgt := 10) hx dX1_tryForms_66 (by decide) ?_
            refine GJ.drop 5 ?_
            first
            | (refine ih (f + 1, σ_60) ⟨by omega, ?_, ?_, hso2.trans q2⟩ (by dsimp only; omega)
               · dsimp only
                 obtain ⟨b1, b2, b3, b4, b5⟩ := q1
                 refine ⟨fun q hq => ?_, fun q hq hh => ?_, b3, b4, b5⟩
                 · rw [b1 q (by omega), ad0_congr (F := upF F j f) (G := F) q (fun x hx => upF_lt (by omega))]
                 · have e8 : upF F j f q = F q := by
                     unfold upF
                     rw [if_neg (fun e => by subst e; rcases hh with h | h; (exact absurd h (Nat.lt_irrefl q)); exact h hT)]
                   rw [← e8]
                   refine b2 q hq ?_
                   rcases hh with h | h
                   · exact Or.inl (by omega)
                   · exact Or.inr h
               · dsimp only
                 rw [q1.1 j (by omega), ad0_congr (F := upF F j f) (G := F) j (fun x hx => upF_lt (by omega))])
            | (refine ih (f + 1, upd2 τ 65 (j : Int) (f : Int)) ⟨by omega, ?_, ?_, hso2⟩ (by dsimp only; omega)
               · dsimp only
                 have e7 : exK P F j A (f + 1) = exK P F j A f := by
                   rcases d9 with ⟨w, -⟩ | ⟨-, w1, w2⟩
                   · omega
                   · rw [exK]
                     exact ext_prune (F0 := upF F j f) (i := j + 1) (t := j) (by omega) (by omega) hT (by omega) w2 _ _ _ (by omega) (fun q _ => rfl)
                 rw [e7]
                 obtain ⟨b1, b2, b3, b4, b5⟩ := hBf
                 refine ⟨fun q hq => by rw [upd2_ne (by omega)]; exact b1 q hq, fun q hq hh => ?_, by rw [upd2_ne (by omega)]; exact b3, by rw [upd2_ne (by omega)]; exact b4, fun q hq => by rw [upd2_ne (by omega)]; exact b5 q hq⟩
                 have ne : q ≠ j := fun e => by subst e; rcases hh with h | h; (exact absurd h (Nat.lt_irrefl q)); exact h hT
                 rw [upd2_ne (by omega)]; exact b2 q hq hh
               · dsimp only
                 rw [upd2_ne (by omega)]; exact haj))
       · first
         | (exfalso; omega)
         | (have hCK2 : CK P (upF F j f) (j + 1) := CK_step hok hj hCK hT (by
              rcases d9 with ⟨-, w⟩ | ⟨w, -⟩
              · exact w
              · omega)
            have hB2 : FB (upd2 τ 65 (j : Int) (f : Int)) P (upF F j f) (j + 1) (exK P F j A f) := by
              obtain ⟨b1, b2, b3, b4, b5⟩ := hBf
              refine ⟨fun q hq => ?_, fun q hq hh => ?_, by rw [upd2_ne (by omega)]; exact b3, by rw [upd2_ne (by omega)]; exact b4, fun q hq => by rw [upd2_ne (by omega)]; exact b5 q hq⟩
              · rw [upd2_ne (by omega), ad0_congr (F := upF F j f) (G := F) q (fun x hx => upF_lt (by omega))]
                by_cases e : q = j
                · subst e; exact haj
                · exact b1 q (by omega)
              · by_cases e : q = j
                · subst e; rw [upd2_at, upF_at]
                · rw [upd2_ne (by omega)]
                  have e8 : upF F j f q = F q := by unfold upF; rw [if_neg e]
                  rw [e8]
                  refine b2 q hq ?_
                  rcases hh with h | h
                  · exact Or.inl (by omega)
                  · exact Or.inr h
            have hxk := exK_ok hok hj hT hCF hA f (by omega)
            refine GJ.cong (L' := [some (.inr 63), some (.inl (j : Int)), some (.inl (dp : Int)), some (.inl (ad0 P F j : Int)), some (.inl (f : Int)), some (.inl (ad0 P (upF F j f) (j + 1) : Int))]) (st' := []) rfl rfl rfl ?_
            refine gx_aload_n hx dX1_tryForms_51 rfl ?_
            refine gx_iload_n hx dX1_tryForms_52 rfl ?_
            refine gx_iconst hx dX1_tryForms_53 ?_
            refine gx_iadd hx dX1_tryForms_54 ?_
            rw [show (j : Int) + 1 = ((j + 1 : Nat) : Int) by omega]
            refine gx_iload hx dX1_tryForms_55 rfl ?_
            refine gx_iload_n hx dX1_tryForms_57 rfl ?_
            refine gx_iconst hx dX1_tryForms_58 ?_
            refine gx_iadd hx dX1_tryForms_59 ?_
            rw [show (dp : Int) + 1 = ((dp + 1 : Nat) : Int) by omega]
            refine gx_callV hx (IH _ _ _ P (upF F j f) (exK P F j A f) (j + 1) (dp + 1) (hP.so hso2 (by decide)) (hL.so (fun k a1 a2 => hso2 k (by omega))) hu (by omega) (upF_CF hCF hT (by omega)) hCK2 hB2 hxk.1 (by have := hxk.2; have h8 : f * 3 ^ rT P (P.length - (j + 1)) ≤ 2 * 3 ^ m := Nat.mul_le_mul (by omega) hpw; omega) (by omega) (by omega)) lkX1_56 mwX1_tryFrom dX1_tryForms_60 (by decide) rfl rfl rfl rfl (Nat.le_of_ble_eq_true rfl) (by omega) ⟨by decide, by decide⟩ (fun σ_60 hz_60 => ?_)
            obtain ⟨q1, q2⟩ := hz_60
            refine gx_iinc hx dX1_tryForms_63 (Nat.le_of_ble_eq_true rfl) rfl ?_
            refine gx_goto (tgt := 10) hx dX1_tryForms_66 (by decide) ?_
            refine GJ.drop 5 ?_
            first
            | (refine ih (f + 1, σ_60) ⟨by omega, ?_, ?_, hso2.trans q2⟩ (by dsimp only; omega)
               · dsimp only
                 obtain ⟨b1, b2, b3, b4, b5⟩ := q1
                 refine ⟨fun q hq => ?_, fun q hq hh => ?_, b3, b4, b5⟩
                 · rw [b1 q (by omega), ad0_congr (F := upF F j f) (G := F) q (fun x hx => upF_lt (by omega))]
                 · have e8 : upF F j f q = F q := by
                     unfold upF
                     rw [if_neg (fun e => by subst e; rcases hh with h | h; (exact absurd h (Nat.lt_irrefl q)); exact h hT)]
                   rw [← e8]
                   refine b2 q hq ?_
                   rcases hh with h | h
                   · exact Or.inl (by omega)
                   · exact Or.inr h
               · dsimp only
                 rw [q1.1 j (by omega), ad0_congr (F := upF F j f) (G := F) j (fun x hx => upF_lt (by omega))])
            | (refine ih (f + 1, upd2 τ 65 (j : Int) (f : Int)) ⟨by omega, ?_, ?_, hso2⟩ (by dsimp only; omega)
               · dsimp only
                 have e7 : exK P F j A (f + 1) = exK P F j A f := by
                   rcases d9 with ⟨w, -⟩ | ⟨-, w1, w2⟩
                   · omega
                   · rw [exK]
                     exact ext_prune (F0 := upF F j f) (i := j + 1) (t := j) (by omega) (by omega) hT (by omega) w2 _ _ _ (by omega) (fun q _ => rfl)
                 rw [e7]
                 obtain ⟨b1, b2, b3, b4, b5⟩ := hBf
                 refine ⟨fun q hq => by rw [upd2_ne (by omega)]; exact b1 q hq, fun q hq hh => ?_, by rw [upd2_ne (by omega)]; exact b3, by rw [upd2_ne (by omega)]; exact b4, fun q hq => by rw [upd2_ne (by omega)]; exact b5 q hq⟩
                 have ne : q ≠ j := fun e => by subst e; rcases hh with h | h; (exact absurd h (Nat.lt_irrefl q)); exact h hT
                 rw [upd2_ne (by omega)]; exact b2 q hq hh
               · dsimp only
                 rw [upd2_ne (by omega)]; exact haj)))
set_option maxRecDepth 20000 in
set_option maxHeartbeats 400000 in
theorem c_X1_tryFrom (g : Gm) (l : Launch) {σ : Sg} {P : List It} {F : Nat → Nat} {A : Ac} {i dp m : Nat} (IH : 0 < m → TSc m) (hP : PR σ 0 P) (hL : LR σ P) (hu : udf P = 0) (hi : i ≤ P.length) (hCF : CF P F i) (hCK : CK P F i) (hB : FB σ P F i A) (hA : okA P A) (hA1 : A.1 + 3 ^ m ≤ 20000) (hm : rT P (P.length - i) ≤ m) (hdp : dp + rT P (P.length - i) ≤ 8) : KV g l yX1_tryFrom cX1_tryFrom 5 (5 + 2 * m) 0 0 [.inr 63, .inl (i : Int), .inl (ad0 P F i : Int), .inl (dp : Int)] σ (fun σ' => FB σ' P F i (ext P (P.length - i) F A) ∧ SO σ σ' 63 66) := by
  refine startV (own := RX1) (by decide +kernel) rfl (Nat.le_of_ble_eq_true rfl) ?_
  intro X hx _ _ hret
  obtain ⟨hok, hc, hg9⟩ := id hP
  have hn := hok.1
  obtain ⟨b1, b2, b3, b4, b5⟩ := id hB
  refine gx_iload_n hx dX1_tryFrom_0 rfl ?_
  refine gx_bipush hx dX1_tryFrom_1 (by decide) ?_
  refine gx_icmp_le (tgt := 7) hx dX1_tryFrom_3 (by decide) ⟨by omega, by omega⟩ ⟨by omega, by omega⟩ (fun h3 => ?_) (fun h3 => ?_)
  rotate_left
  · exfalso; omega
  refine gx_aload_n hx dX1_tryFrom_7 rfl ?_
  refine gx_iload_n hx dX1_tryFrom_8 rfl ?_
  refine gx_iload_n hx dX1_tryFrom_9 rfl ?_
  refine gx_callI hx (c_X1_placeUpToTransfer (F := F) (i := i) _ _ hP hL hu hi hCF hCK b1 b2) lkX1_60 mwX1_placeUpToTransfer dX1_tryFrom_10 (by decide) rfl rfl rfl rfl (Nat.le_of_ble_eq_true rfl) (by omega) ⟨by decide, by decide⟩ (fun z_10 σ_10 hz_10 => ?_)
  obtain ⟨w9, hso⟩ := hz_10
  have hPt := hP.so hso (by decide)
  have hLt : LR σ_10 P := hL.so (fun k a1 a2 => hso k (by omega))
  rcases w9 with ⟨j, rfl, w1, w2, w3, w4, w5, w6⟩ | ⟨rfl, j, t, w1, w2, w3, w4, w5, w6, w7, w8⟩
  · have hCFj : CF P F j := ⟨fun q hq => hCF.1 q (by omega), hCF.2⟩
    have hsk : ext P (P.length - i) F A = ext P (P.length - j) F A := by
      have := ext_skip (P := P) (F := F) (A := A) (i := i) (j - i) (by omega) (fun q h1 h2 => w4 q h1 (by omega))
      rw [this, show i + (j - i) = j by omega]
    have hrt := rT_skip (P := P) (i := i) (j - i) (by omega)
    rw [show i + (j - i) = j by omega] at hrt
    have hBj : FB σ_10 P F j A := by
      refine ⟨fun q hq => w6 q (by omega), fun q hq hh => ?_, by rw [hso 63 (by omega)]; exact b3, by rw [hso 63 (by omega)]; exact b4, fun q hq => by rw [hso 66 (by omega)]; exact b5 q hq⟩
      rw [hso 65 (by omega)]
      refine b2 q hq ?_
      by_cases h : q < i
      · exact Or.inl h
      · refine Or.inr ?_
        rcases hh with h9 | h9
        · exact w4 q (by omega) h9
        · exact h9
    have hbdj := aP_le hok F w2
    refine gx_istore hx dX1_tryFrom_13 (Nat.le_of_ble_eq_true rfl) ?_
    refine gx_iload hx dX1_tryFrom_15 rfl ?_
    refine gx_aload_n hx dX1_tryFrom_17 rfl ?_
    refine gx_getR hx flX1_28 dX1_tryFrom_18 (by decide) rfl rfl ?_
    refine gx_callI hx (c_X6_count (j := 0) _ _ (by decide) hPt) lkX1_40 mwX6_count dX1_tryFrom_21 (by decide) rfl rfl rfl rfl (Nat.le_of_ble_eq_true rfl) (by omega) ⟨by decide, by decide⟩ (fun z_21 σ_21 hz_21 => ?_)
    obtain ⟨rfl, rfl⟩ := hz_21
    refine gx_icmp_ne (tgt := 41) hx dX1_tryFrom_24 (by decide) ⟨by omega, by omega⟩ ⟨by omega, by omega⟩ (fun h24 => ?_) (fun h24 => ?_)
    · have hTj : isT P j := by
        rcases w3 with h | h
        · omega
        · exact h
      have hrj := rT_T (P := P) (i := j) (by omega) hTj
      refine gx_iload hx dX1_tryFrom_41 rfl ?_
      refine gx_iconst hx dX1_tryFrom_43 ?_
      refine gx_icmp_eq (tgt := 54) hx dX1_tryFrom_44 (by decide) ⟨by omega, by omega⟩ ⟨by omega, by omega⟩ (fun h44 => by exfalso; omega) (fun h44 => ?_)
      refine gx_aload_n hx dX1_tryFrom_47 rfl ?_
      refine gx_iload hx dX1_tryFrom_48 rfl ?_
      refine gx_iload_n hx dX1_tryFrom_50 rfl ?_
      refine gx_callV hx (IH (by omega) _ _ _ P F A j dp hPt hLt hu (by omega) hTj hCFj w5 hBj (w6 j (Nat.le_refl j)) hA hA1 (by omega) (by omega)) lkX1_68 mwX1_tryForms dX1_tryFrom_51 (by decide) rfl rfl rfl rfl (Nat.le_of_ble_eq_true rfl) (by omega) ⟨by decide, by decide⟩ (fun σ_51 hz_51 => ?_)
      obtain ⟨q1, q2⟩ := hz_51
      refine hret _ _ _ _ _ (by decide) (by decide) dX1_tryFrom_54 ?_
      obtain ⟨c1, c2, c3, c4, c5⟩ := q1
      rw [hsk]
      refine ⟨⟨fun q hq => c1 q (by omega), fun q hq hh => c2 q hq (hh.elim (fun h => Or.inl (by omega)) Or.inr), c3, c4, c5⟩, fun k hk => (q2 k hk).trans (hso k (by omega))⟩
    · have ej : j = P.length := by omega
      subst ej
      have e35 := w6 P.length (Nat.le_refl _)
      have h3m : 0 < 3 ^ m := Nat.pow_pos (by decide)
      refine gx_aload_n hx dX1_tryFrom_27 rfl ?_
      refine gx_aload_n hx dX1_tryFrom_28 rfl ?_
      refine gx_getR hx flX1_9 dX1_tryFrom_29 (by decide) rfl rfl ?_
      refine gx_iload hx dX1_tryFrom_32 rfl ?_
      refine gx_iald hx dX1_tryFrom_34 (by decide) rfl (by omega) (by omega) (by decide) ?_
      rw [e35]
      refine gx_callV hx (c_X1_keep (F := F) (A := A) _ _ hPt hLt hu hCFj (CK_all w5) hBj hA (by omega)) lkX1_64 mwX1_keep dX1_tryFrom_35 (by decide) rfl rfl rfl rfl (Nat.le_of_ble_eq_true rfl) (by omega) ⟨by decide, by decide⟩ (fun σ_35 hz_35 => ?_)
      obtain ⟨q1, q2, q3, q4⟩ := hz_35
      refine gx_goto (tgt := 54) hx dX1_tryFrom_38 (by decide) ?_
      refine hret _ _ _ _ _ (by decide) (by decide) dX1_tryFrom_54 ?_
      obtain ⟨c1, c2, c3, c4, c5⟩ := q1
      rw [hsk, Nat.sub_self, ext]
      refine ⟨⟨fun q hq => c1 q (by omega), fun q hq hh => c2 q hq (hh.elim (fun h => Or.inl (by omega)) Or.inr), c3, c4, c5⟩, fun k hk => (q2 k hk).trans (hso k (by omega))⟩
  · have hsk : ext P (P.length - i) F A = A := by
      have := ext_skip (P := P) (F := F) (A := A) (i := i) (j - i) (by omega) (fun q h1 h2 => w3 q h1 (by omega))
      rw [this, show i + (j - i) = j by omega]
      exact ext_prune (F0 := F) (i := j) (t := t) w2 w4 w5 w6 w7 _ _ _ (by omega) (fun q _ => rfl)
    refine gx_istore hx dX1_tryFrom_13 (Nat.le_of_ble_eq_true rfl) ?_
    refine gx_iload hx dX1_tryFrom_15 rfl ?_
    refine gx_aload_n hx dX1_tryFrom_17 rfl ?_
    refine gx_getR hx flX1_28 dX1_tryFrom_18 (by decide) rfl rfl ?_
    refine gx_callI hx (c_X6_count (j := 0) _ _ (by decide) hPt) lkX1_40 mwX6_count dX1_tryFrom_21 (by decide) rfl rfl rfl rfl (Nat.le_of_ble_eq_true rfl) (by omega) ⟨by decide, by decide⟩ (fun z_21 σ_21 hz_21 => ?_)
    obtain ⟨rfl, rfl⟩ := hz_21
    refine gx_icmp_ne (tgt := 41) hx dX1_tryFrom_24 (by decide) ⟨by omega, by omega⟩ ⟨by omega, by omega⟩ (fun h24 => ?_) (fun h24 => by exfalso; omega)
    refine gx_iload hx dX1_tryFrom_41 rfl ?_
    refine gx_iconst hx dX1_tryFrom_43 ?_
    refine gx_icmp_eq (tgt := 54) hx dX1_tryFrom_44 (by decide) ⟨by omega, by omega⟩ ⟨by omega, by omega⟩ (fun h44 => ?_) (fun h44 => absurd rfl h44)
    refine hret _ _ _ _ _ (by decide) (by decide) dX1_tryFrom_54 ?_
    rw [hsk]
    exact ⟨hB.so hso w8, hso.mono (by decide) (by decide)⟩
theorem try_all : ∀ m, TFc m
  | 0 => fun g l σ P F A i dp hP hL hu hi hCF hCK hB hA hA1 hm hdp => c_X1_tryFrom g l (m := 0) (fun h => absurd h (Nat.lt_irrefl 0)) hP hL hu hi hCF hCK hB hA hA1 hm hdp
  | m + 1 => fun g l σ P F A i dp hP hL hu hi hCF hCK hB hA hA1 hm hdp => c_X1_tryFrom g l (m := m + 1) (fun _ g l σ P F A j dp hP hL hu hj hT hCF hCK hB ha hA hA1 hm hdp => c_X1_tryForms g l (try_all m) hP hL hu hj hT hCF hCK hB ha hA hA1 hm hdp) hP hL hu hi hCF hCK hB hA hA1 hm hdp
