/-! ===== a statement; the whole text ===== -/
section TU
variable {b : Nat → Int32} {L : Nat}
theorem st_one (hb : sr_bytes b) {now : Nat → Int32} {n r : Nat} {dr : Nat → Nat → Int32} (hlo : sr_logOk now n r) (hl : 0 ≤ (now 1).toInt) (hd : ts_lg dr now n r) {a s : Nat} {v : Int32} {fl ca cb : Nat} (hsa : sr_skip b L a = s) (hs : s < L) : st_R b L (ts_one b L (tkn b L v a) fl ca cb dr) (sr_toldF b L s n r) (sr_toldA b L s n) (sr_toldN b L now s n r) fl := by
  have hn := hlo.1.2.1
  have r12 := hlo.1.2.2.2
  have en : ts_n dr = n := by unfold ts_n; rw [hd.1, nI_clamp (by omega)]
  have er : ts_r dr = r := by unfold ts_r; rw [hd.2.2.1, nI_clamp (by omega)]
  have ss : st_s b L s = s := by unfold st_s; rw [← hsa, sr_skip_idem]
  have sw : st_w b L s = sr_word b L s := by unfold st_w; rw [ss]
  have sa : st_a b L s = sr_wend b L s := by unfold st_a; rw [ss]
  have sn : st_n b L s = sr_skip b L (sr_wend b L s) := by unfold st_n; rw [sa]
  have tt : tkn b L v a = (tk_k b L s, s, tk_v b L s v, tk_e b L s) := by unfold tkn; rw [hsa]
  have w4 := tk_word (b := b) (L := L) (s := s) (k := 4) (c := 116919) (by omega)
  have w5 := tk_word (b := b) (L := L) (s := s) (k := 5) (c := 12891444) (by omega)
  have w6 := tk_word (b := b) (L := L) (s := s) (k := 6) (c := 590949) (by omega)
  have wl := sr_wend_leL (b := b) (L := L) (s := s) (by omega)
  rw [tt]
  unfold ts_one sr_toldF sr_toldA sr_toldN
  dsimp only
  rw [sw, sn, sa, ss, en, er]
  by_cases c4 : tk_k b L s = 4
  · have wd := tk_wde (b := b) (L := L) (by omega) (by omega) c4 v
    rw [if_pos c4, if_pos (c := sr_word b L s = nI 116919) (w4.mp c4), if_pos (c := sr_word b L s = nI 116919) (w4.mp c4), if_pos (c := sr_word b L s = nI 116919) (w4.mp c4)]
    unfold ts_rows
    dsimp only
    rw [wd.2.1, wd.2.2]
    have kk : (tkn b L v (sr_wend b L s)).1 = tk_k b L (sr_skip b L (sr_wend b L s)) := rfl
    rw [kk]
    unfold sr_numInF
    by_cases f : sr_numF b L (sr_skip b L (sr_wend b L s)) = 0
    · have nk := num_k (num_is f) v
      have l1 := (num_of (num_is f)).1
      have nA := sr_numA_leL (b := b) (L := L) (s := sr_skip b L (sr_wend b L s)) (by omega)
      have ev : (tkn b L v (sr_wend b L s)).2.2.1 = sr_numR b L (sr_skip b L (sr_wend b L s)) := nk.2.1
      have ee : (tkn b L v (sr_wend b L s)).2.2.2 = sr_numA b L (sr_skip b L (sr_wend b L s)) := nk.2.2
      have ep : (tkn b L v (sr_wend b L s)).2.1 = sr_skip b L (sr_wend b L s) := rfl
      rw [if_pos (tk_num.mpr f), ev, ee, ep, if_pos f]
      by_cases hin : sr_isIn (sr_numR b L (sr_skip b L (sr_wend b L s))) (nI 0) (nI 6) = true
      · rw [if_pos hin, if_pos hin]
        obtain ⟨x, _, hx, ex⟩ := isIn_n (by decide) (by omega) hin
        refine ⟨fun _ => ⟨rfl, ⟨sr_numR b L (sr_skip b L (sr_wend b L s)), sr_numA b L (sr_skip b L (sr_wend b L s)), by omega, rfl, rfl⟩, rfl, x, 0, ?_, ?_, ?_⟩, fun z => absurd rfl z⟩
        · rw [ex]; exact sr_okC hx
        · exact hl
        · rw [ex]; exact ⟨rfl, hd.2.1, rfl, fun q hq => absurd hq (by omega)⟩
      · rw [if_neg hin, if_neg hin]
        exact ⟨fun z => absurd z (by omega), fun _ => Or.inl ⟨rfl, rfl⟩⟩
    · rw [if_neg (fun z => f (tk_num.mp z)), if_neg f]
      exact ⟨fun z => absurd z f, fun _ => Or.inl ⟨rfl, (numF_or f).symm⟩⟩
  · have n4 : ¬ sr_word b L s = nI 116919 := fun z => c4 (w4.mpr z)
    rw [if_neg c4, if_neg n4, if_neg n4, if_neg n4]
    by_cases c5 : tk_k b L s = 5
    · have wd := tk_wde (b := b) (L := L) (by omega) (by omega) c5 v
      rw [if_pos c5, if_pos (c := sr_word b L s = nI 12891444) (w5.mp c5), if_pos (c := sr_word b L s = nI 12891444) (w5.mp c5), if_pos (c := sr_word b L s = nI 12891444) (w5.mp c5)]
      unfold ts_bnd
      dsimp only
      rw [wd.2.1, wd.2.2]
      have kk : (tkn b L v (sr_wend b L s)).1 = tk_k b L (sr_skip b L (sr_wend b L s)) := rfl
      rw [kk]
      unfold sr_numInF
      by_cases f : sr_numF b L (sr_skip b L (sr_wend b L s)) = 0
      · have nk := num_k (num_is f) v
        have l1 := (num_of (num_is f)).1
        have nA := sr_numA_leL (b := b) (L := L) (s := sr_skip b L (sr_wend b L s)) (by omega)
        have ev : (tkn b L v (sr_wend b L s)).2.2.1 = sr_numR b L (sr_skip b L (sr_wend b L s)) := nk.2.1
        have ee : (tkn b L v (sr_wend b L s)).2.2.2 = sr_numA b L (sr_skip b L (sr_wend b L s)) := nk.2.2
        have ep : (tkn b L v (sr_wend b L s)).2.1 = sr_skip b L (sr_wend b L s) := rfl
        rw [if_pos (tk_num.mpr f), ev, ee, ep, if_pos f]
        by_cases hin : sr_isIn (sr_numR b L (sr_skip b L (sr_wend b L s))) (nI 1) (nI 99) = true
        · rw [if_pos hin, if_pos hin]
          obtain ⟨x, h1, hx, ex⟩ := isIn_n (by decide) (by omega) hin
          refine ⟨fun _ => ⟨rfl, ⟨sr_numR b L (sr_skip b L (sr_wend b L s)), sr_numA b L (sr_skip b L (sr_wend b L s)), by omega, rfl, rfl⟩, rfl, n, r, sr_okL hlo, ?_, ?_⟩, fun z => absurd rfl z⟩
          · show 0 ≤ (upd now 1 (sr_numR b L (sr_skip b L (sr_wend b L s))) 1).toInt
            rw [pk_us, ex, nI_toInt (by omega)]; omega
          · refine ⟨hd.1, rfl, hd.2.2.1, fun q hq => ?_⟩
            have e := hd.2.2.2 q hq
            have un : ∀ k, ¬ k = 1 → upd now 1 (sr_numR b L (sr_skip b L (sr_wend b L s))) k = now k := fun k hk => pk_un hk
            rw [un _ (by omega), un _ (by omega), un _ (by omega), un _ (by omega)]
            exact e
        · rw [if_neg hin, if_neg hin]
          exact ⟨fun z => absurd z (by omega), fun _ => Or.inl ⟨rfl, rfl⟩⟩
      · rw [if_neg (fun z => f (tk_num.mp z)), if_neg f]
        exact ⟨fun z => absurd z f, fun _ => Or.inl ⟨rfl, (numF_or f).symm⟩⟩
    · have n5 : ¬ sr_word b L s = nI 12891444 := fun z => c5 (w5.mpr z)
      rw [if_neg c5, if_neg n5, if_neg n5, if_neg n5]
      by_cases c6 : tk_k b L s = 6
      · have wd := tk_wde (b := b) (L := L) (by omega) (by omega) c6 v
        rw [if_pos c6, if_pos (c := sr_word b L s = nI 590949) (w6.mp c6), wd.2.1, wd.2.2]
        have := st_race hb hlo hl hd (v := v) (fl := fl) (ca := ca) (cb := cb) (show s ≤ L by omega) c6
        rw [c6]; exact this
      · rw [if_neg c6, if_neg (c := sr_word b L s = nI 590949) (fun z => c6 (w6.mpr z))]
        exact ⟨fun z => absurd z (by omega), fun _ => Or.inl ⟨rfl, rfl⟩⟩
theorem tx_all (hb : sr_bytes b) (h300 : L ≤ 300) : ∀ k kc st v a ca cb dr now n r, L + 2 ≤ k + a → L ≤ kc + a → a ≤ L + 1 → sr_logOk now n r → 0 ≤ (now 1).toInt → ts_lg dr now n r → ((ts_all b L kc st (tkn b L v a) 0 ca cb dr).1 = true ↔ (sr_tellL b L k st a now).2.1 = 0) ∧ (ts_all b L kc st (tkn b L v a) 0 ca cb dr).2.2.1 = (sr_tellL b L k st a now).1 ∧ (ts_all b L kc st (tkn b L v a) 0 ca cb dr).2.2.2.1 = (sr_tellL b L k st a now).2.1 ∧ ((sr_tellL b L k st a now).2.1 = 0 → ∃ n' r', sr_logOk (sr_tellL b L k st a now).2.2 n' r' ∧ 0 ≤ ((sr_tellL b L k st a now).2.2 1).toInt ∧ ts_lg (ts_all b L kc st (tkn b L v a) 0 ca cb dr).2.2.2.2.2.2 (sr_tellL b L k st a now).2.2 n' r') := by
  intro k
  induction k with
  | zero => intro kc st v a ca cb dr now n r h1 h2 h3 _ _ _; exact absurd h1 (by omega)
  | succ k ih =>
    intro kc st v a ca cb dr now n r h1 h2 h3 hlo hl hd
    have hn := hlo.1.2.1
    have r12 := hlo.1.2.2.2
    have c0 : (now 0).toNatClampNeg = n := by rw [hlo.1.1, nI_clamp (by omega)]
    have c2 : (now 2).toNatClampNeg = r := by rw [hlo.1.2.2.1, nI_clamp (by omega)]
    have sg := sr_skip_ge b L a
    have k0 : (tkn b L v a).1 = tk_k b L (sr_skip b L a) := rfl
    have et : sr_tellL b L (k + 1) st a now = if sr_skip b L a < L then (if tl_F b L now (sr_skip b L a) = 0 then sr_tellL b L k (st + 1) (tl_e b L now (sr_skip b L a) + 1) (tl_N b L now (sr_skip b L a)) else (st, tl_F b L now (sr_skip b L a), now)) else (st, 0, now) := rfl
    by_cases hs : sr_skip b L a < L
    · obtain ⟨kc', rfl⟩ : ∃ j, kc = j + 1 := ⟨kc - 1, by omega⟩
      have eX : ts_all b L (kc' + 1) st (tkn b L v a) 0 ca cb dr = if (tkn b L v a).1 = 0 then (true, tkn b L v a, st, 0, ca, cb, dr) else
          (if (ts_one b L (tkn b L v a) 0 ca cb dr).1 = true then
            (if (ts_one b L (tkn b L v a) 0 ca cb dr).2.1.1 = 2 then ts_all b L kc' (st + 1) (ts_t1 b L (ts_one b L (tkn b L v a) 0 ca cb dr).2.1) (ts_one b L (tkn b L v a) 0 ca cb dr).2.2.1 (ts_one b L (tkn b L v a) 0 ca cb dr).2.2.2.1 (ts_one b L (tkn b L v a) 0 ca cb dr).2.2.2.2.1 (ts_one b L (tkn b L v a) 0 ca cb dr).2.2.2.2.2
            else (false, (ts_one b L (tkn b L v a) 0 ca cb dr).2.1, st, 1 + 8 * (ts_one b L (tkn b L v a) 0 ca cb dr).2.1.2.1, (ts_one b L (tkn b L v a) 0 ca cb dr).2.2.2.1, (ts_one b L (tkn b L v a) 0 ca cb dr).2.2.2.2.1, (ts_one b L (tkn b L v a) 0 ca cb dr).2.2.2.2.2))
          else (false, (ts_one b L (tkn b L v a) 0 ca cb dr).2.1, st, (ts_one b L (tkn b L v a) 0 ca cb dr).2.2.1, (ts_one b L (tkn b L v a) 0 ca cb dr).2.2.2.1, (ts_one b L (tkn b L v a) 0 ca cb dr).2.2.2.2.1, (ts_one b L (tkn b L v a) 0 ca cb dr).2.2.2.2.2)) := rfl
      have R := st_one hb hlo hl hd (a := a) (v := v) (fl := 0) (ca := ca) (cb := cb) rfl hs
      rw [eX, et, k0, if_neg (fun z => tk_0.mp z hs), if_pos hs]
      have gt := fun hF => sr_told_gt (b := b) (L := L) (s := sr_skip b L a) (n := n) (rc := r) h300 hn (by omega) hF
      have etF : tl_F b L now (sr_skip b L a) = if ¬ sr_toldF b L (sr_skip b L a) n r = 0 then sr_toldF b L (sr_skip b L a) n r else if sr_at1 b L (tl_e b L now (sr_skip b L a)) = nI 59 then 0 else 1 + 8 * tl_e b L now (sr_skip b L a) := by unfold tl_F; rw [c0, c2]
      have ete : tl_e b L now (sr_skip b L a) = sr_skip b L (sr_toldA b L (sr_skip b L a) n) := by unfold tl_e; rw [c0]
      have etN : tl_N b L now (sr_skip b L a) = sr_toldN b L now (sr_skip b L a) n r := by unfold tl_N; rw [c0, c2]
      rw [etF, etN]
      generalize ts_one b L (tkn b L v a) 0 ca cb dr = W at *
      by_cases hF : sr_toldF b L (sr_skip b L a) n r = 0
      · obtain ⟨q1, ⟨v', a', la, tw, pa⟩, q2, n', r', q3, q4, q5⟩ := R.1 hF
        have pl : sr_skip b L a' = tl_e b L now (sr_skip b L a) := by rw [pa, ete]
        have kw : W.2.1.1 = tk_k b L (tl_e b L now (sr_skip b L a)) := by rw [tw, ← pl]; rfl
        have pw : W.2.1.2.1 = tl_e b L now (sr_skip b L a) := by rw [tw, ← pl]; rfl
        have sgn := tk_sg hb (L := L) (s := tl_e b L now (sr_skip b L a))
        rw [if_pos q1, if_neg (c := ¬ sr_toldF b L (sr_skip b L a) n r = 0) (fun z => z hF), kw, pw]
        by_cases c2' : tk_k b L (tl_e b L now (sr_skip b L a)) = 2
        · have a59 := sgn.1.mp c2'
          have lt : tl_e b L now (sr_skip b L a) < L := sr_at1_lt (n := 59) (by decide) a59
          have te := sgn.2.2 (Or.inl c2')
          have t1 : ts_t1 b L W.2.1 = tkn b L (tk_v b L (tl_e b L now (sr_skip b L a)) v') (tl_e b L now (sr_skip b L a) + 1) := by
            rw [tw]
            show tkn b L (tk_v b L (sr_skip b L a') v') (tk_e b L (sr_skip b L a')) = _
            rw [pl, te]
          rw [if_pos c2', if_pos a59, if_pos rfl, q2, t1]
          have g1 := gt hF
          have g2 := sr_skip_ge b L (sr_toldA b L (sr_skip b L a) n)
          rw [← ete] at g2
          exact ih kc' (st + 1) _ (tl_e b L now (sr_skip b L a) + 1) _ _ _ _ n' r' (by omega) (by omega) (by omega) q3 q4 q5
        · have n59 : ¬ sr_at1 b L (tl_e b L now (sr_skip b L a)) = nI 59 := fun z => c2' (sgn.1.mpr z)
          rw [if_neg c2', if_neg n59, if_neg (show ¬ 1 + 8 * tl_e b L now (sr_skip b L a) = 0 by omega)]
          exact ⟨⟨fun z => absurd z (by show ¬ false = true; decide), fun z => absurd z (by show ¬ 1 + 8 * tl_e b L now (sr_skip b L a) = 0; omega)⟩, rfl, rfl, fun z => absurd z (by show ¬ 1 + 8 * tl_e b L now (sr_skip b L a) = 0; omega)⟩
      · rw [if_pos (c := ¬ sr_toldF b L (sr_skip b L a) n r = 0) hF, if_neg hF]
        rcases R.2 hF with ⟨x, y⟩ | ⟨x, y, z⟩
        · rw [if_neg (c := W.1 = true) (by rw [x]; decide)]
          exact ⟨⟨fun z => absurd z (by show ¬ false = true; decide), fun z => absurd z hF⟩, rfl, y, fun z => absurd z hF⟩
        · rw [if_pos x, if_neg y]
          exact ⟨⟨fun z => absurd z (by show ¬ false = true; decide), fun z => absurd z hF⟩, rfl, z.symm, fun z => absurd z hF⟩
    · have eX : ts_all b L kc st (tkn b L v a) 0 ca cb dr = (true, tkn b L v a, st, 0, ca, cb, dr) := by
        cases kc with
        | zero => rfl
        | succ j => exact if_pos (tk_0.mpr hs)
      rw [eX, et, if_neg hs]
      exact ⟨⟨fun _ => rfl, fun _ => rfl⟩, rfl, rfl, fun _ => ⟨n, r, hlo, hl, hd⟩⟩
end TU
