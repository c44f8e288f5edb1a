theorem rs_fire {F : Nat} (hF : 16500 < F) : RS_fire RR F := by
  intro uC uM h a
  have h' := h
  obtain ⟨df, jo, sp, is, os, rg, nn, th, vv, dd, fi, gv, on, p, mm, tt, ss, hS, hI, hT, ⟨hW, hWm, hD⟩, hV⟩ := h
  have hB : rr_B uC uM df jo sp is os rg nn th vv dd fi gv on p mm tt ss := ⟨hS, hI, hT, hW, hWm, hD⟩
  have n1 : ¬ (1 : Int32) = 0 := by decide
  rcases df_ca hW hWm a with ⟨t, ht, rfl, hd, e1, e2⟩ | ⟨e1, e2⟩
  · obtain ⟨r, uC1, uM1, g1, g2, g3, g4, g5⟩ := en_same hF hW hWm hD (t := t) (fun hd => ⟨((hT t ht).2 hd).1.1, ((hT t ht).2 hd).1.2.2.1⟩) ht hS.2.2.2.2.1 hS.1 hS.2.1 hS.2.2.1 hS.2.2.2.1
    have hR1 := rr_fr h' (fr_n_s g3) (fun k j a b => g4.1 k j a b)
    have hB1 := rr_B_fr hB g3 g4
    rcases g5 with rfl | ⟨rfl, rfl, -, hf, hus⟩
    · refine ⟨-2, uC1, uM1, ?_, ?_, hR1⟩
      · unfold sp_CN_fire; rw [e1, cl_some, if_neg n1, g1, cl_some, if_pos rfl]
      · unfold sp_Md_fire; rw [e2, cl_some, if_neg n1, g2, cl_some, if_pos rfl]
    · have hib : ib (nI t) 6 = true := ib_nI ht (by omega)
      have hcl : (nI t).toNatClampNeg = t := nI_clamp (by omega)
      have hB1' := hB1
      obtain ⟨hS1, hI1, hT1, hW1, hWm1, -⟩ := hB1'
      obtain ⟨S1, S2, S3, S4, S5, S6, S7, S8, S9, S10⟩ := hS1
      obtain ⟨⟨f1, f2, f3⟩, hT2⟩ := hT1 t ht
      obtain ⟨⟨j1, j2, j3, j4⟩, ⟨n1c, n1m, nn1, nn4⟩, -⟩ := hT2 hd
      obtain ⟨w2, w3, w4, w5, w6, w7, w8⟩ := (hWm1 t ht).2 hd
      obtain ⟨hj, hs, ⟨hi1, hi2⟩, ⟨ho1, ho2⟩, hr⟩ := hD t ht hd
      by_cases hm : mm + nn t ≤ 60
      · have hle : p &&& is t ≤ is t := Nat.and_le_right
        obtain ⟨lw1, lw2⟩ := lw_all (p &&& is t) (by omega)
        -- what is used
        obtain ⟨us, hus1, hus2⟩ : ∃ us, us < 256 ∧ us = if jo t = 1 then lw_n (p &&& is t) else p &&& is t := ⟨_, by split <;> omega, rfl⟩
        have EC1 : sp_Task_inputsUsed t (uC1.1 0 4) uC1 = some (nI us, uC1) := by
          unfold sp_Task_inputsUsed
          simp only [nm_k]
          rw [S3, j3, nx_and, j1]
          by_cases hj1 : jo t = 1
          · rw [if_pos ((nI_o (by omega)).mpr hj1), lw1, hus2, if_pos hj1]
          · rw [if_neg (fun e => hj1 ((nI_o (by omega)).mp e)), hus2, if_neg hj1]
        obtain ⟨z, uC3, q1, q2, q3, q4, q5⟩ := of_C (F := F) (t := t) (a := mm + 1) (b := nn t) (clk := uC1.1 0 5) (by omega) F (mm + 1) (ly_pi uC1 0 4 (nI (mk_nd p us ||| 2 ^ (8 + t)))) (by omega) (by omega) (by omega)
        have E45 : uC3.1 45 3 = nI mm := by rw [q2 45 (by omega) (by omega) (by omega), pi_p (by omega)]; exact S8
        have EC : sp_CN_fire F (nI t) uC = some (nI (mm + 1), ly_pi (ly_pi uC3 45 3 (nI (mm + nn t))) (9 + 6 * t) 11 (nI (mm + 1))) := by
          unfold sp_CN_fire
          rw [e1, cl_some, if_neg n1, g1, cl_some, if_neg n1, if_pos hib, hcl]
          unfold sp_Work_hasRoomFor
          rw [S8, n1c, nI_add, if_neg (show ¬ (60 : Int32) < nI (mm + nn t) from nI_nlt (a := 60) hm (by omega)), cl_some, if_neg n1, EC1, cl_some, S3, (hW1 t ht).1, nx_nd, nx_or]
          simp only [nm_k]
          unfold sp_Work_offer
          rw [pi_p (q := 0) (k := 9 + 6 * t) (by omega), n1c, pi_p (q := 0) (k := 45) (by omega), S8, nI_1, pi_ne (q := 0) (j := 4) (q2 := 0) (j2 := 5) (Or.inr (by omega))]
          simp only [nm_k]
          rw [q1, E45, nI_add, cl_some, pi_at]
        obtain ⟨z', uM3, k1, k2, k3, k4, k5, k6, k7⟩ := of_M (F := F) (t := t) (mm := mm) (b := nn t) (v2 := nI (p &&& is t)) ht hm F 0 (ly_pi (ly_pi (ly_pi uM1 0 16 (nI (mk_nd p us))) 0 16 (nI (mk_nd p us ||| 2 ^ (8 + t)))) 20 t (nI (mm + 1))) (by omega) (by omega) (by rw [pi_p (by omega), pi_p (by omega), pi_p (by omega)]; exact n1m) (by rw [pi_p (by omega), pi_ne (Or.inr (by omega)), pi_ne (Or.inr (by omega))]; exact S9)
        have EM : sp_Md_fire F (nI t) uM = some (nI (mm + 1), uM3) := by
          unfold sp_Md_fire
          rw [e2, cl_some, if_neg n1, g2, cl_some, if_neg n1, if_pos hib, hcl, S9, n1m, nI_add, if_pos (show nI (mm + nn t) ≤ (60 : Int32) from nI_le (b := 60) hm (by omega)), if_pos hib, w4, S4, nx_and, w2, Nat.and_comm (is t) p]
          simp only [nm_k]
          rw [if_pos hib, show (8 : Int32) + nI t = nI (8 + t) from by rw [show (8 : Int32) = nI 8 from rfl, nI_add], sh_one (by omega)]
          have fin : ∀ uu, uu = ly_pi uM1 0 16 (nI (mk_nd p us)) → (if ib (nI t) 6 = true then lp_Md_fire_110 F (nI t) (nI (p &&& is t)) (fun (v3_30 : Int32) (u31 : St) => (if ib (nI t) 6 = true then (some ((u31.1 (20) t), u31)) else none)) F (0 : Int32) (ly_pi (ly_pi uu 0 16 (uu.1 0 16 ||| nI (2 ^ (8 + t)))) 20 t ((ly_pi uu 0 16 (uu.1 0 16 ||| nI (2 ^ (8 + t)))).1 0 19 + 1)) else none) = some (nI (mm + 1), uM3) := fun uu e => by
            subst e
            rw [if_pos hib, pi_at, nx_or, pi_ne (q := 0) (j := 16) (q2 := 0) (j2 := 19) (Or.inr (by omega)), pi_ne (q := 0) (j := 16) (q2 := 0) (j2 := 19) (Or.inr (by omega)), S9, nI_1, show (0 : Int32) = nI 0 from rfl, k1, if_pos hib, k2 20 (by omega) (by omega) (by omega) (by omega), pi_at]
          by_cases hj1 : jo t = 1
          · rw [if_pos ((nI_o (by omega)).mpr hj1)]
            exact fin _ (by rw [lw1, nx_nd, hus2, if_pos hj1])
          · rw [if_neg (fun e => hj1 ((nI_o (by omega)).mp e))]
            exact fin _ (by rw [nx_nd, hus2, if_neg hj1])
        refine ⟨nI (mm + 1), _, _, EC, EM, fr_fin (us := us) ht hd hf hus1 hm hB1 hV (fun k h1 h2 h3 h4 h5 h6 => ?_) (fun j hj => ?_) ?_ ?_ (fun j hj => ?_) (pi_at _ _ _ _) (fun j => ?_) (fun j => ?_) (fun j => ?_) (fun k h1 h2 h3 h4 h5 => ?_) (fun j h1 h2 => ?_) ?_ k4 (fun j hj => ?_) ?_ (fun j => ?_) (fun j => ?_) (fun j => ?_)⟩
        · rw [pi_p h6, pi_p h2, q2 k h3 h4 h5, pi_p h1]
        · rw [pi_p (by omega), pi_p (by omega), q2 0 (by omega) (by omega) (by omega), pi_ne (Or.inr hj)]
        · rw [pi_p (by omega), pi_p (by omega), q2 0 (by omega) (by omega) (by omega), pi_at]
        · rw [pi_p (by omega), pi_at]
        · rw [pi_ne (Or.inr hj), pi_p (by omega), q2 _ (by omega) (by omega) (by omega), pi_p (by omega)]
        · rw [pi_p (by omega), pi_p (by omega), q3 j, pi_p (by omega)]
        · rw [pi_p (by omega), pi_p (by omega), q4 j, pi_p (by omega)]
        · rw [pi_p (by omega), pi_p (by omega), q5 j, pi_p (by omega)]
        · rw [k2 k h1 h2 h3 h4, pi_p h5, pi_p h1, pi_p h1]
        · rw [k3 j h2, pi_p (by omega), pi_ne (Or.inr h1), pi_ne (Or.inr h1)]
        · rw [k3 16 (by omega), pi_p (by omega), pi_at]
        · rw [k2 20 (by omega) (by omega) (by omega) (by omega), pi_ne (Or.inr hj), pi_p (by omega), pi_p (by omega)]
        · rw [k2 20 (by omega) (by omega) (by omega) (by omega), pi_at]
        · rw [k5 j, pi_p (by omega), pi_p (by omega), pi_p (by omega)]
        · rw [k6 j, pi_p (by omega), pi_p (by omega), pi_p (by omega)]
        · rw [k7 j, pi_p (q := 20) (k := 0) (by omega), pi_ne (q := 0) (j := 16) (q2 := 0) (j2 := 17) (Or.inr (by omega)), pi_ne (q := 0) (j := 16) (q2 := 0) (j2 := 17) (Or.inr (by omega)), pi_p (by omega), pi_p (by omega), pi_p (by omega)]
      · refine ⟨-3, uC1, uM1, ?_, ?_, hR1⟩
        · unfold sp_CN_fire
          rw [e1, cl_some, if_neg n1, g1, cl_some, if_neg n1, if_pos hib, hcl]
          unfold sp_Work_hasRoomFor
          rw [S8, n1c, nI_add, if_pos (show (60 : Int32) < nI (mm + nn t) from nI_lt (a := 60) (by omega) (by omega)), cl_some, if_pos rfl]
        · unfold sp_Md_fire
          rw [e2, cl_some, if_neg n1, g2, cl_some, if_neg n1, if_pos hib, hcl, S9, n1m, nI_add, if_neg (show ¬ nI (mm + nn t) ≤ (60 : Int32) from nI_ge (a := 60) (by omega) (by omega))]
  · refine ⟨-1, uC, uM, ?_, ?_, h'⟩
    · unfold sp_CN_fire; rw [e1, cl_some, if_pos rfl]
    · unfold sp_Md_fire; rw [e2, cl_some, if_pos rfl]
