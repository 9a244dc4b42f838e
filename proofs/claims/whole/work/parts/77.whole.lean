/-! The law from its entry -/
theorem lw_retR {p : Program} {l : Launch} {e : Env} {R : Room} {s : State} {m : MethodId} {below : List Frame} {meth : Method} {c : Code} {b : Nat} {d0 : Drawn} (hd0 : s.drawn.sameBut d0 lw_cs) (hx : p.tables.exec = Jvm.exec) (hb : c.code = code) (hr : meth.sig.returnType = ret) (hlocks : meth.locks = false) {pc : Nat} {H : Heap} {ls : Array Slot} (hdg : decode code pc = .ok (.ireturn, 1)) : W p l e R (s.setDrawn d0) m #[Value.ref b] below meth c H [] 603072 7190634 (lw_Z below #[Value.ref b] s) (F0 m pc ls [.int 1]) := by
  intro T hT X
  obtain ⟨fs, hret, hrun, hended, hW, hframe⟩ := X.leave (v := some (.int 1)) (hlocks := hlocks) (fun h => by rw [hr] at h; cases h)
  have hmeth' : T.vm.method? m = some meth := X.method'
  refine ⟨T.setFrames fs, ?_, .returned (some (.int 1)), hrun, hended, rfl, lw_closed hd0 ⟨_, rfl⟩ hW hframe⟩
  jvm_step X.here [X.here.top, hx, hb, hdg, hmeth', hr, ret, narrow_b1]
  (try refine ⟨rfl, ?_⟩); (try refine ⟨rfl, ?_⟩)
  first | (intro acts; rw [hret _ acts rfl rfl rfl]) | rw [hret _ _ rfl rfl rfl]
  exact Steps.refl _
set_option maxRecDepth 100000 in
set_option maxHeartbeats 4000000 in
theorem whole_start {p : Program} {e : Env} {s : State} {m : MethodId} {below : List Frame} {meth : Method} {c : Code} (l : Launch) (hflags : l.flags = flags0) {b L : Nat} {xs : Nat → Int32} (hL : L ≤ 1536) (C0 : lw_At p s m meth c b L xs) : W p l e room_1 s m #[Value.ref b] below meth c s.heap [] 0 0 (lw_Z below #[Value.ref b] s) (entryFrame m ([Value.ref b] : List Value).toArray 9) := by
  obtain ⟨hx, hb, hr, hml, hown, hts, hX, hbl, hlocks, hgv⟩ := C0
  have hl0 : l.stackTraces = false := by
    unfold Launch.stackTraces
    rw [hflags]
    decide +kernel
  have hg : ∀ c ∈ GV, c.before #[Value.ref b] s = true := flat_of_before _ hgv
  have hA : ∀ a : Nat, a < s.heap.size → ¬ (fun q : Nat => s.heap.size ≤ q) a := fun a h1 h2 => absurd h1 (Nat.not_lt.mpr h2)
  obtain ⟨D, hD⟩ := st_cls hts
  obtain ⟨tc, hT⟩ := st_ty hts
  obtain ⟨adK, adV, hS1, hS2, hS3⟩ := st_str (b := b) (A := fun q => s.heap.size ≤ q) hg hA
  subst hS3
  have hnest : ∀ q ∈ nestW, va_Nw (.methodLinkNest q.1 q.2.1 q.2.2.1 q.2.2.2) s := fun q hq => va_Nw.of rfl (hts _ (in_nest q hq))
  have hCOK : COK (D, tc) s := ⟨⟨hD, hT⟩, hnest, va_AO.of (hts _ in_aro)⟩
  refine W_room (R' := rmH 1400 603072 7190634) (Nat.le_of_ble_eq_true rfl) (Nat.le_of_ble_eq_true rfl) (Nat.le_of_ble_eq_true rfl) (Nat.le_of_ble_eq_true rfl) ?_
  have hl := lv_entry ([.ref (adK 40)]) (n := 9) (Nat.le_of_ble_eq_true rfl)
  rw [lg_entry_eq]
  have key : CJ ((D, tc), p, l, e, rmH 1400 603072 7190634, s, m, #[Value.ref (adK 40)], below, meth, c, lw_Z below #[Value.ref (adK 40)] s, 9, fun q => s.heap.size ≤ q) 0 0 0 [(0, .ref (adK 40))] [] [] := by
    refine law_make (h0 := 1400) (mc0 := 603072) (ms0 := 7190634) ⟨hx, hb, hml, hown, fun w hw => hts w (big_in hw), hCOK, hlocks, rfl, fun q hq => hq⟩ (Nat.le_of_ble_eq_true rfl) (Nat.le_of_ble_eq_true rfl) (Nat.le_of_ble_eq_true rfl) rfl (fun f => ?_)
    intro H locs ls hP hDD hS hls
    have hsok : SOK (D, f, tc, (fun q => s.heap.size ≤ q), adK, adV) s := by
      refine ⟨⟨hD, hT⟩, fun i j hi hj he => ?_, fun k hk => ?_, fun q hq => hq, hnest, fun i hi => ?_, hS1, va_Zof (hts _ ls_cs) (hts _ in_st) (va_eqi (hg _ (List.mem_of_getElem? gv_cs))) hA, vx_Zqof (hts _ ls_us) (hts _ in_th) (hg _ (List.mem_of_getElem? gv_us)) hA, vx_Zqof (hts _ ls_ss) (hts _ in_th) (hg _ (List.mem_of_getElem? gv_ss)) hA, fun E hE => va_Nw.of rfl (hts _ (in_cast E hE)), va_Zqof (hts _ ls_sf) (hts _ in_pr) (hg _ (List.mem_of_getElem? gv_sf)) hA, fun y hy => va_Nw.of rfl (hts _ (in_decl y hy))⟩
      · unfold adr at he
        rw [if_pos (by omega), if_pos (by omega)] at he
        obtain ⟨e1, h1⟩ := LW_at (D, tc) f i hi
        obtain ⟨e2, h2⟩ := LW_at (D, tc) f j hj
        exact pl_inj i hi j hj (hDD.1 _ _ _ _ h1 h2 he)
      · unfold adr
        rw [if_pos (by omega)]
        obtain ⟨e1, h1⟩ := LW_at (D, tc) f k hk
        exact hDD.2 _ _ h1
      · have ha : adr (D, f, tc, (fun q => s.heap.size ≤ q), adK, adV) (1000 + i) = adK i := by
          unfold adr
          rw [if_neg (by omega), if_pos (by omega), Nat.add_sub_cancel_left]
        rw [ha]
        exact vk_R.of (hts _ (in_str i hi)) (hS2 i hi)
    have hcx : CX ((D, f, tc, (fun q => s.heap.size ≤ q), adK, adV), p, l, e, rmH 1400 603072 7190634, s, m, #[Value.ref (adK 40)], below, meth, c, lw_Z below #[Value.ref (adK 40)] s, 9) cL_law RL 1400 603072 7190634 := ⟨hx, hb, hml, hown, fun w hw => hts w (big_in hw), hsok, hlocks, rfl⟩
    have hlw : LWX ((D, f, tc, (fun q => s.heap.size ≤ q), adK, adV), p, l, e, rmH 1400 603072 7190634, s, m, #[Value.ref (adK 40)], below, meth, c, lw_Z below #[Value.ref (adK 40)] s, 9) L xs := ⟨hX, hbl, fun h => absurd hbl (Nat.not_lt.mpr h)⟩
    have hend : ∀ (i a b : Nat) (σ : Sg), a ≤ 603072 → b ≤ 7190634 → GJ ((D, f, tc, (fun q => s.heap.size ≤ q), adK, adV), p, l, e, rmH 1400 603072 7190634, s, m, #[Value.ref (adK 40)], below, meth, c, lw_Z below #[Value.ref (adK 40)] s, 9) a b 2073 [some (.inr 1040), some (.inr 69), some (.inr 70), some (.inr 81), some (.inr 82), some (.inl (i : Int)), none, none, none] [] σ := by
      intro i a b9 σ ha hb9 H1 locs1 ls1 _ hP1 hS1 _
      refine lv_iconst (v := 1) hx hb dL_law_2073 rfl ?_
      refine va_forget (fun q hq => hS1.2.2 q hq) ?_
      refine W.widen (k := 603072) (n := 7190634) ha hb9 ?_
      exact lw_retR (d0 := s.drawn) (Drawn.sameBut.refl s.drawn lw_cs) hx hb hr hlocks dL_law_2074
    have hgj : GJ ((D, f, tc, (fun q => s.heap.size ≤ q), adK, adV), p, l, e, rmH 1400 603072 7190634, s, m, #[Value.ref (adK 40)], below, meth, c, lw_Z below #[Value.ref (adK 40)] s, 9) 83 11795 25 [some (.inr 1040), some (.inr 69), some (.inr 70), some (.inr 81), some (.inr 82), none, none, none, none] [] s0 := by
      refine gx_iconst hcx dL_law_25 ?_
      refine gx_istore hcx dL_law_26 (Nat.le_of_ble_eq_true rfl) ?_
      exact law_loop hcx (Nat.le_of_ble_eq_true rfl) hlw (st_nc hg) hl0 hL hend (L + 1) 0 83 11795 s0 _ (by omega) (by omega) (by omega) (by omega) cr0 mr0
    exact hgj H locs ls rfl (LW_P hP) hS (lv_sub hls [4, 3, 2, 1, 0] rfl)
  exact key s.heap [] _ (fun k q h => by simp at h) ⟨fun i j p q h => by simp at h, fun k q h => by simp at h⟩ va_S.rf hl
