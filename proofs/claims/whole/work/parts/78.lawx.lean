set_option maxRecDepth 100000
theorem wLw_law_b23 {X : MC} {G : GE} {n0 sl b L NB : Nat} {xs : Nat → Int32} {E : Nat → Room × (State → Prop) × Nat} (hG : gH G = true) (C : CX X G RL code pLw_law 7 (some .boolean) n0) (hX : SCR X G b L xs) (hE : CE E 14 300 sl n0) (hend : LEND X G 300 sl n0 NB E) (a1 a3 : Nat) (k23 : Int32 → Sg → Mm → Nat → Option Nat) (H23 : ∀ (x4 : Int32) (σ : Sg) (M : Mm) (n : Nat), JS X G 7 300 sl n0 E (k23 x4 σ M n) (σ, M, n) 23 [(0, .inr (.inl (some b))), (1, .inr (.inl (some a1))), (2, .inr (.inl (some (gM G)))), (3, .inr (.inl (some a3))), (4, .inl x4)] []) (x4 : Int32) (σ : Sg) (M : Mm) (n : Nat) : JS X G 7 300 sl n0 E (fLw_law_b23 xs L a1 a3 NB k23 x4 σ M n) (σ, M, n) 23 [(0, .inr (.inl (some b))), (1, .inr (.inl (some a1))), (2, .inr (.inl (some (gM G)))), (3, .inr (.inl (some a3))), (4, .inl x4)] [] := by
  unfold fLw_law_b23
  refine s_blk C 13 2 [0, 1, 2, 3, 4] (pc' := 26) (lv' := [(0, .inr (.inl (some b))), (1, .inr (.inl (some a1))), (2, .inr (.inl (some (gM G)))), (3, .inr (.inl (some a3))), (4, .inl x4)]) (st' := [.inr (.inl (some b)), .inl x4]) rfl ?_
  refine s_slen C hX 15 rfl ?_
  refine s_blk C 16 2 [0, 1, 2, 3, 4] (pc' := 29) (lv' := [(0, .inr (.inl (some b))), (1, .inr (.inl (some a1))), (2, .inr (.inl (some (gM G)))), (3, .inr (.inl (some a3))), (4, .inl x4)]) (st' := [.inl ((Int32.ofNat L) - 5), .inl x4]) rfl ?_
  refine s_icgt C 18 rfl (fun _ => ?_) (fun _ => ?_)
  · refine s_blk C 1383 1 [] (pc' := 2191) (lv' := []) (st' := [.inl 1]) rfl ?_
    exact s_lwE hend
  refine s_blk C 19 2 [0, 1, 2, 3, 4] (pc' := 35) (lv' := [(0, .inr (.inl (some b))), (1, .inr (.inl (some a1))), (2, .inr (.inl (some (gM G)))), (3, .inr (.inl (some a3))), (4, .inl x4)]) (st' := [.inl x4, .inr (.inl (some b))]) rfl ?_
  refine s_sld C hX 21 rfl (fun v1 => ?_)
  refine s_blk C 22 2 [0, 1, 2, 3, 4] (pc' := 39) (lv' := [(0, .inr (.inl (some b))), (1, .inr (.inl (some a1))), (2, .inr (.inl (some (gM G)))), (3, .inr (.inl (some a3))), (4, .inl x4)]) (st' := [.inl (v1 &&& 31)]) rfl ?_
  refine s_tsw C 24 (tg := 2184) rfl (by decide) (by decide) ?_ (fun j off hj => ?_)
  · exact wLw_law_j2184 hG C hX hE hend a1 a3 k23 H23 _ _ _ _
  rcases j with _ | _ | _ | _ | _ | _ | _ | _ | _ | _ | _ | _ | _ | _ | _ | _ | _ | _ | _ | _ | _ | _ | _ | _ | _ | _ | _ | _ | j
  · obtain rfl : (125 : Int) = off := Option.some.inj hj
    refine ⟨164, by decide, ?_⟩
    dsimp only [tsl]
    refine s_blk C 25 5 [0, 1, 2, 3, 4] (pc' := 170) (lv' := [(0, .inr (.inl (some b))), (1, .inr (.inl (some a1))), (2, .inr (.inl (some (gM G)))), (3, .inr (.inl (some a3))), (4, .inl x4)]) (st' := [.inl (x4 + 1), .inr (.inl (some b)), .inr (.inl (some a1))]) rfl ?_
    refine s_sld C hX 30 rfl (fun v2 => ?_)
    refine s_blk C 31 4 [0, 1, 2, 3, 4] (pc' := 176) (lv' := [(0, .inr (.inl (some b))), (1, .inr (.inl (some a1))), (2, .inr (.inl (some (gM G)))), (3, .inr (.inl (some a3))), (4, .inl x4)]) (st' := [.inl (x4 + 2), .inr (.inl (some b)), .inl v2, .inr (.inl (some a1))]) rfl ?_
    refine s_sld C hX 35 rfl (fun v3 => ?_)
    refine s_blk C 36 4 [0, 1, 2, 3, 4] (pc' := 182) (lv' := [(0, .inr (.inl (some b))), (1, .inr (.inl (some a1))), (2, .inr (.inl (some (gM G)))), (3, .inr (.inl (some a3))), (4, .inl x4)]) (st' := [.inl (x4 + 3), .inr (.inl (some b)), .inl v3, .inl v2, .inr (.inl (some a1))]) rfl ?_
    refine s_sld C hX 40 rfl (fun v4 => ?_)
    refine s_blk C 41 1 [0, 1, 2, 3, 4] (pc' := 184) (lv' := [(0, .inr (.inl (some b))), (1, .inr (.inl (some a1))), (2, .inr (.inl (some (gM G)))), (3, .inr (.inl (some a3))), (4, .inl x4)]) (st' := [.inr (.inl (some a3)), .inl v4, .inl v3, .inl v2, .inr (.inl (some a1))]) rfl ?_
    refine s_L hE (st := []) (fun o ho => j_callSW (As := [.inr (.inl (some a1)), .inl v2, .inl v3, .inl v4, .inr (.inl (some a3))]) (st := []) C 42 rfl mf_Lw_draft ml_L_106 rfl (by decide) (by decide) (Nat.le_refl _) rfl (cLw_draft (CX_tr C) σ M n (some a1) v2 v3 v4 (some a3) o ho)) (fun v5 M6 n7 _ => ?_)
    refine s_blk C 43 6 [0, 1, 2, 3, 4, 5] (pc' := 195) (lv' := [(0, .inr (.inl (some b))), (1, .inr (.inl (some a1))), (2, .inr (.inl (some (gM G)))), (3, .inr (.inl (some a3))), (4, .inl x4), (5, .inl v5)]) (st' := [.inl (x4 + 1), .inr (.inl (some b)), .inr (.inl (some (gM G)))]) rfl ?_
    refine s_sld C hX 49 rfl (fun v8 => ?_)
    refine s_blk C 50 4 [0, 1, 2, 3, 4, 5] (pc' := 201) (lv' := [(0, .inr (.inl (some b))), (1, .inr (.inl (some a1))), (2, .inr (.inl (some (gM G)))), (3, .inr (.inl (some a3))), (4, .inl x4), (5, .inl v5)]) (st' := [.inl (x4 + 2), .inr (.inl (some b)), .inl v8, .inr (.inl (some (gM G)))]) rfl ?_
    refine s_sld C hX 54 rfl (fun v9 => ?_)
    refine s_blk C 55 4 [0, 1, 2, 3, 4, 5] (pc' := 207) (lv' := [(0, .inr (.inl (some b))), (1, .inr (.inl (some a1))), (2, .inr (.inl (some (gM G)))), (3, .inr (.inl (some a3))), (4, .inl x4), (5, .inl v5)]) (st' := [.inl (x4 + 3), .inr (.inl (some b)), .inl v9, .inl v8, .inr (.inl (some (gM G)))]) rfl ?_
    refine s_sld C hX 59 rfl (fun v10 => ?_)
    refine s_SI hE (st := []) (fun o ho => j_callV (As := [.inl v8, .inl v9, .inl v10]) (st := []) (b := gM G) C 60 rfl mf_Md_draft ml_L_111 rfl (recv_M hG C) (by decide) (by decide) (Nat.le_refl _) rfl (cMd_draft (CX_tr C) hG σ M6 n7 v8 v9 v10 o ho)) (fun v11 σ12 => ?_)
    refine s_blk C 61 2 [0, 1, 2, 3, 4, 5, 6] (pc' := 214) (lv' := [(0, .inr (.inl (some b))), (1, .inr (.inl (some a1))), (2, .inr (.inl (some (gM G)))), (3, .inr (.inl (some a3))), (4, .inl x4), (5, .inl v5), (6, .inl v11)]) (st' := [.inr (.inl (some (gM G)))]) rfl ?_
    refine s_RI hE (st := []) (fun o ho => j_callV (As := []) (st := []) (b := gM G) C 63 rfl mf_Md_thrown ml_L_112 rfl (recv_M hG C) (by decide) (by decide) (Nat.le_refl _) rfl (cMd_thrown (CX_tr C) hG σ12 M6 n7 o ho)) (fun v13 => ?_)
    refine s_blk C 64 1 [0, 1, 2, 3, 4, 5, 6] (pc' := 219) (lv' := [(0, .inr (.inl (some b))), (1, .inr (.inl (some a1))), (2, .inr (.inl (some (gM G)))), (3, .inr (.inl (some a3))), (4, .inl x4), (5, .inl v5), (6, .inl v11)]) (st' := [.inl v5, .inl v13]) rfl ?_
    refine s_iceq C 65 rfl (fun _ => ?_) (fun _ => ?_)
    · refine s_blk C 68 1 [0, 1, 2, 3, 4, 6] (pc' := 226) (lv' := [(0, .inr (.inl (some b))), (1, .inr (.inl (some a1))), (2, .inr (.inl (some (gM G)))), (3, .inr (.inl (some a3))), (4, .inl x4), (6, .inl v11)]) (st' := [.inl v5]) rfl ?_
      refine s_ine C 69 rfl (fun _ => ?_) (fun _ => ?_)
      · refine s_blk C 70 2 [0, 1, 2, 3, 4, 6] (pc' := 231) (lv' := [(0, .inr (.inl (some b))), (1, .inr (.inl (some a1))), (2, .inr (.inl (some (gM G)))), (3, .inr (.inl (some a3))), (4, .inl x4), (6, .inl v11)]) (st' := [.inl 0, .inr (.inl (some a3))]) rfl ?_
        refine s_ldJ C 72 rfl (fun j14 => ?_)
        refine s_blk C 73 2 [0, 1, 2, 3, 4] (pc' := 235) (lv' := [(0, .inr (.inl (some b))), (1, .inr (.inl (some a1))), (2, .inr (.inl (some (gM G)))), (3, .inr (.inl (some a3))), (4, .inl x4)]) (st' := [.inr (.inr ((v11).toInt64)), .inr (.inr j14)]) rfl ?_
        refine s_lcmp C 75 rfl ?_
        refine s_ieq C 76 rfl (fun _ => ?_) (fun _ => ?_)
        · exact wLw_law_j241 hG C hX hE hend a1 a3 k23 H23 _ _ _ _
        refine s_blk C 77 1 [] (pc' := 240) (lv' := []) (st' := [.inl 0]) rfl ?_
        exact s_none
      refine s_blk C 0 0 [0, 1, 2, 3, 4] (pc' := 241) (lv' := [(0, .inr (.inl (some b))), (1, .inr (.inl (some a1))), (2, .inr (.inl (some (gM G)))), (3, .inr (.inl (some a3))), (4, .inl x4)]) (st' := []) rfl ?_
      exact wLw_law_j241 hG C hX hE hend a1 a3 k23 H23 _ _ _ _
    refine s_blk C 66 1 [] (pc' := 223) (lv' := []) (st' := [.inl 0]) rfl ?_
    exact s_none
  · obtain rfl : (205 : Int) = off := Option.some.inj hj
    refine ⟨244, by decide, ?_⟩
    dsimp only [tsl]
    refine s_blk C 80 1 [0, 1, 2, 3, 4] (pc' := 245) (lv' := [(0, .inr (.inl (some b))), (1, .inr (.inl (some a1))), (2, .inr (.inl (some (gM G)))), (3, .inr (.inl (some a3))), (4, .inl x4)]) (st' := [.inr (.inl (some a1))]) rfl ?_
    refine s_rks (fun hk15 => ?_)
    refine s_WI hE (st := []) (fun o ho => j_callV (As := []) (st := []) (b := a1) C 81 rfl mf_Hb_clear ml_L_116 rfl (recv_K C (by decide) (by decide) rfl hk15) (by decide) (by decide) (Nat.le_refl _) rfl (cHb_clear (CX_tr C) σ M n a1 o ho)) (fun v17 M18 => ?_)
    refine s_blk C 82 1 [0, 1, 2, 3, 4] (pc' := 249) (lv' := [(0, .inr (.inl (some b))), (1, .inr (.inl (some a1))), (2, .inr (.inl (some (gM G)))), (3, .inr (.inl (some a3))), (4, .inl x4)]) (st' := [.inr (.inl (some (gM G))), .inl v17]) rfl ?_
    refine s_SI hE (st := [.inl v17]) (fun o ho => j_callV (As := []) (st := [.inl v17]) (b := gM G) C 83 rfl mf_Md_clear ml_L_119 rfl (recv_M hG C) (by decide) (by decide) (Nat.le_refl _) rfl (cMd_clear (CX_tr C) hG σ M18 n o ho)) (fun v19 σ20 => ?_)
    refine s_iceq C 84 rfl (fun _ => ?_) (fun _ => ?_)
    · exact wLw_law_j2184 hG C hX hE hend a1 a3 k23 H23 _ _ _ _
    refine s_blk C 85 1 [] (pc' := 256) (lv' := []) (st' := [.inl 0]) rfl ?_
    exact s_none
  · obtain rfl : (218 : Int) = off := Option.some.inj hj
    refine ⟨257, by decide, ?_⟩
    dsimp only [tsl]
    refine s_blk C 87 5 [0, 1, 2, 3, 4] (pc' := 263) (lv' := [(0, .inr (.inl (some b))), (1, .inr (.inl (some a1))), (2, .inr (.inl (some (gM G)))), (3, .inr (.inl (some a3))), (4, .inl x4)]) (st' := [.inl (x4 + 1), .inr (.inl (some b)), .inr (.inl (some a1))]) rfl ?_
    refine s_sld C hX 92 rfl (fun v21 => ?_)
    refine s_blk C 93 4 [0, 1, 2, 3, 4] (pc' := 269) (lv' := [(0, .inr (.inl (some b))), (1, .inr (.inl (some a1))), (2, .inr (.inl (some (gM G)))), (3, .inr (.inl (some a3))), (4, .inl x4)]) (st' := [.inl (x4 + 2), .inr (.inl (some b)), .inl v21, .inr (.inl (some a1))]) rfl ?_
    refine s_sld C hX 97 rfl (fun v22 => ?_)
    refine s_blk C 98 4 [0, 1, 2, 3, 4] (pc' := 275) (lv' := [(0, .inr (.inl (some b))), (1, .inr (.inl (some a1))), (2, .inr (.inl (some (gM G)))), (3, .inr (.inl (some a3))), (4, .inl x4)]) (st' := [.inl (x4 + 3), .inr (.inl (some b)), .inl v22, .inl v21, .inr (.inl (some a1))]) rfl ?_
    refine s_sld C hX 102 rfl (fun v23 => ?_)
    refine s_blk C 103 1 [0, 1, 2, 3, 4] (pc' := 277) (lv' := [(0, .inr (.inl (some b))), (1, .inr (.inl (some a1))), (2, .inr (.inl (some (gM G)))), (3, .inr (.inl (some a3))), (4, .inl x4)]) (st' := [.inr (.inl (some a3)), .inl v23, .inl v22, .inl v21, .inr (.inl (some a1))]) rfl ?_
    refine s_L hE (st := []) (fun o ho => j_callSW (As := [.inr (.inl (some a1)), .inl v21, .inl v22, .inl v23, .inr (.inl (some a3))]) (st := []) C 104 rfl mf_Lw_put ml_L_120 rfl (by decide) (by decide) (Nat.le_refl _) rfl (cLw_put (CX_tr C) σ M n (some a1) v21 v22 v23 (some a3) o ho)) (fun v24 M25 n26 _ => ?_)
    refine s_blk C 105 6 [0, 1, 2, 3, 4, 5] (pc' := 288) (lv' := [(0, .inr (.inl (some b))), (1, .inr (.inl (some a1))), (2, .inr (.inl (some (gM G)))), (3, .inr (.inl (some a3))), (4, .inl x4), (5, .inl v24)]) (st' := [.inl (x4 + 1), .inr (.inl (some b)), .inr (.inl (some (gM G)))]) rfl ?_
    refine s_sld C hX 111 rfl (fun v27 => ?_)
    refine s_blk C 112 4 [0, 1, 2, 3, 4, 5] (pc' := 294) (lv' := [(0, .inr (.inl (some b))), (1, .inr (.inl (some a1))), (2, .inr (.inl (some (gM G)))), (3, .inr (.inl (some a3))), (4, .inl x4), (5, .inl v24)]) (st' := [.inl (x4 + 2), .inr (.inl (some b)), .inl v27, .inr (.inl (some (gM G)))]) rfl ?_
    refine s_sld C hX 116 rfl (fun v28 => ?_)
    refine s_blk C 117 4 [0, 1, 2, 3, 4, 5] (pc' := 300) (lv' := [(0, .inr (.inl (some b))), (1, .inr (.inl (some a1))), (2, .inr (.inl (some (gM G)))), (3, .inr (.inl (some a3))), (4, .inl x4), (5, .inl v24)]) (st' := [.inl (x4 + 3), .inr (.inl (some b)), .inl v28, .inl v27, .inr (.inl (some (gM G)))]) rfl ?_
    refine s_sld C hX 121 rfl (fun v29 => ?_)
    refine s_SI hE (st := []) (fun o ho => j_callV (As := [.inl v27, .inl v28, .inl v29]) (st := []) (b := gM G) C 122 rfl mf_Md_put ml_L_122 rfl (recv_M hG C) (by decide) (by decide) (Nat.le_refl _) rfl (cMd_put (CX_tr C) hG σ M25 n26 v27 v28 v29 o ho)) (fun v30 σ31 => ?_)
    refine s_blk C 123 2 [0, 1, 2, 3, 4, 5, 6] (pc' := 307) (lv' := [(0, .inr (.inl (some b))), (1, .inr (.inl (some a1))), (2, .inr (.inl (some (gM G)))), (3, .inr (.inl (some a3))), (4, .inl x4), (5, .inl v24), (6, .inl v30)]) (st' := [.inr (.inl (some (gM G)))]) rfl ?_
    refine s_RI hE (st := []) (fun o ho => j_callV (As := []) (st := []) (b := gM G) C 125 rfl mf_Md_thrown ml_L_112 rfl (recv_M hG C) (by decide) (by decide) (Nat.le_refl _) rfl (cMd_thrown (CX_tr C) hG σ31 M25 n26 o ho)) (fun v32 => ?_)
    refine s_blk C 126 1 [0, 1, 2, 3, 4, 5, 6] (pc' := 312) (lv' := [(0, .inr (.inl (some b))), (1, .inr (.inl (some a1))), (2, .inr (.inl (some (gM G)))), (3, .inr (.inl (some a3))), (4, .inl x4), (5, .inl v24), (6, .inl v30)]) (st' := [.inl v24, .inl v32]) rfl ?_
    refine s_iceq C 127 rfl (fun _ => ?_) (fun _ => ?_)
    · refine s_blk C 130 1 [0, 1, 2, 3, 4, 6] (pc' := 319) (lv' := [(0, .inr (.inl (some b))), (1, .inr (.inl (some a1))), (2, .inr (.inl (some (gM G)))), (3, .inr (.inl (some a3))), (4, .inl x4), (6, .inl v30)]) (st' := [.inl v24]) rfl ?_
      refine s_ine C 131 rfl (fun _ => ?_) (fun _ => ?_)
      · refine s_blk C 132 2 [0, 1, 2, 3, 4, 6] (pc' := 324) (lv' := [(0, .inr (.inl (some b))), (1, .inr (.inl (some a1))), (2, .inr (.inl (some (gM G)))), (3, .inr (.inl (some a3))), (4, .inl x4), (6, .inl v30)]) (st' := [.inl 0, .inr (.inl (some a3))]) rfl ?_
        refine s_ldJ C 134 rfl (fun j33 => ?_)
        refine s_blk C 135 2 [0, 1, 2, 3, 4] (pc' := 328) (lv' := [(0, .inr (.inl (some b))), (1, .inr (.inl (some a1))), (2, .inr (.inl (some (gM G)))), (3, .inr (.inl (some a3))), (4, .inl x4)]) (st' := [.inr (.inr ((v30).toInt64)), .inr (.inr j33)]) rfl ?_
        refine s_lcmp C 137 rfl ?_
        refine s_ieq C 138 rfl (fun _ => ?_) (fun _ => ?_)
        · exact wLw_law_j334 hG C hX hE hend a1 a3 k23 H23 _ _ _ _
        refine s_blk C 139 1 [] (pc' := 333) (lv' := []) (st' := [.inl 0]) rfl ?_
        exact s_none
      refine s_blk C 0 0 [0, 1, 2, 3, 4] (pc' := 334) (lv' := [(0, .inr (.inl (some b))), (1, .inr (.inl (some a1))), (2, .inr (.inl (some (gM G)))), (3, .inr (.inl (some a3))), (4, .inl x4)]) (st' := []) rfl ?_
      exact wLw_law_j334 hG C hX hE hend a1 a3 k23 H23 _ _ _ _
    refine s_blk C 128 1 [] (pc' := 316) (lv' := []) (st' := [.inl 0]) rfl ?_
    exact s_none
  · obtain rfl : (298 : Int) = off := Option.some.inj hj
    refine ⟨337, by decide, ?_⟩
    dsimp only [tsl]
    refine s_blk C 142 5 [0, 1, 2, 3, 4] (pc' := 343) (lv' := [(0, .inr (.inl (some b))), (1, .inr (.inl (some a1))), (2, .inr (.inl (some (gM G)))), (3, .inr (.inl (some a3))), (4, .inl x4)]) (st' := [.inl (x4 + 1), .inr (.inl (some b)), .inr (.inl (some a1))]) rfl ?_
    refine s_sld C hX 147 rfl (fun v34 => ?_)
    refine s_blk C 148 4 [0, 1, 2, 3, 4] (pc' := 349) (lv' := [(0, .inr (.inl (some b))), (1, .inr (.inl (some a1))), (2, .inr (.inl (some (gM G)))), (3, .inr (.inl (some a3))), (4, .inl x4)]) (st' := [.inl (x4 + 2), .inr (.inl (some b)), .inl v34, .inr (.inl (some a1))]) rfl ?_
    refine s_sld C hX 152 rfl (fun v35 => ?_)
    refine s_blk C 153 1 [0, 1, 2, 3, 4] (pc' := 351) (lv' := [(0, .inr (.inl (some b))), (1, .inr (.inl (some a1))), (2, .inr (.inl (some (gM G)))), (3, .inr (.inl (some a3))), (4, .inl x4)]) (st' := [.inr (.inl (some a3)), .inl v35, .inl v34, .inr (.inl (some a1))]) rfl ?_
    refine s_L hE (st := []) (fun o ho => j_callSW (As := [.inr (.inl (some a1)), .inl v34, .inl v35, .inr (.inl (some a3))]) (st := []) C 154 rfl mf_Lw_delete ml_L_123 rfl (by decide) (by decide) (Nat.le_refl _) rfl (cLw_delete (CX_tr C) σ M n (some a1) v34 v35 (some a3) o ho)) (fun v36 M37 n38 _ => ?_)
    refine s_blk C 155 6 [0, 1, 2, 3, 4, 5] (pc' := 362) (lv' := [(0, .inr (.inl (some b))), (1, .inr (.inl (some a1))), (2, .inr (.inl (some (gM G)))), (3, .inr (.inl (some a3))), (4, .inl x4), (5, .inl v36)]) (st' := [.inl (x4 + 1), .inr (.inl (some b)), .inr (.inl (some (gM G)))]) rfl ?_
    refine s_sld C hX 161 rfl (fun v39 => ?_)
    refine s_blk C 162 4 [0, 1, 2, 3, 4, 5] (pc' := 368) (lv' := [(0, .inr (.inl (some b))), (1, .inr (.inl (some a1))), (2, .inr (.inl (some (gM G)))), (3, .inr (.inl (some a3))), (4, .inl x4), (5, .inl v36)]) (st' := [.inl (x4 + 2), .inr (.inl (some b)), .inl v39, .inr (.inl (some (gM G)))]) rfl ?_
    refine s_sld C hX 166 rfl (fun v40 => ?_)
    refine s_SI hE (st := []) (fun o ho => j_callV (As := [.inl v39, .inl v40]) (st := []) (b := gM G) C 167 rfl mf_Md_delete ml_L_126 rfl (recv_M hG C) (by decide) (by decide) (Nat.le_refl _) rfl (cMd_delete (CX_tr C) hG σ M37 n38 v39 v40 o ho)) (fun v41 σ42 => ?_)
    refine s_blk C 168 2 [0, 1, 2, 3, 4, 5, 6] (pc' := 375) (lv' := [(0, .inr (.inl (some b))), (1, .inr (.inl (some a1))), (2, .inr (.inl (some (gM G)))), (3, .inr (.inl (some a3))), (4, .inl x4), (5, .inl v36), (6, .inl v41)]) (st' := [.inr (.inl (some (gM G)))]) rfl ?_
    refine s_RI hE (st := []) (fun o ho => j_callV (As := []) (st := []) (b := gM G) C 170 rfl mf_Md_thrown ml_L_112 rfl (recv_M hG C) (by decide) (by decide) (Nat.le_refl _) rfl (cMd_thrown (CX_tr C) hG σ42 M37 n38 o ho)) (fun v43 => ?_)
    refine s_blk C 171 1 [0, 1, 2, 3, 4, 5, 6] (pc' := 380) (lv' := [(0, .inr (.inl (some b))), (1, .inr (.inl (some a1))), (2, .inr (.inl (some (gM G)))), (3, .inr (.inl (some a3))), (4, .inl x4), (5, .inl v36), (6, .inl v41)]) (st' := [.inl v36, .inl v43]) rfl ?_
    refine s_iceq C 172 rfl (fun _ => ?_) (fun _ => ?_)
    · refine s_blk C 175 1 [0, 1, 2, 3, 4, 6] (pc' := 387) (lv' := [(0, .inr (.inl (some b))), (1, .inr (.inl (some a1))), (2, .inr (.inl (some (gM G)))), (3, .inr (.inl (some a3))), (4, .inl x4), (6, .inl v41)]) (st' := [.inl v36]) rfl ?_
      refine s_ine C 176 rfl (fun _ => ?_) (fun _ => ?_)
      · refine s_blk C 177 2 [0, 1, 2, 3, 4, 6] (pc' := 392) (lv' := [(0, .inr (.inl (some b))), (1, .inr (.inl (some a1))), (2, .inr (.inl (some (gM G)))), (3, .inr (.inl (some a3))), (4, .inl x4), (6, .inl v41)]) (st' := [.inl 0, .inr (.inl (some a3))]) rfl ?_
        refine s_ldJ C 179 rfl (fun j44 => ?_)
        refine s_blk C 180 2 [0, 1, 2, 3, 4] (pc' := 396) (lv' := [(0, .inr (.inl (some b))), (1, .inr (.inl (some a1))), (2, .inr (.inl (some (gM G)))), (3, .inr (.inl (some a3))), (4, .inl x4)]) (st' := [.inr (.inr ((v41).toInt64)), .inr (.inr j44)]) rfl ?_
        refine s_lcmp C 182 rfl ?_
        refine s_ieq C 183 rfl (fun _ => ?_) (fun _ => ?_)
        · exact wLw_law_j402 hG C hX hE hend a1 a3 k23 H23 _ _ _ _
        refine s_blk C 184 1 [] (pc' := 401) (lv' := []) (st' := [.inl 0]) rfl ?_
        exact s_none
      refine s_blk C 0 0 [0, 1, 2, 3, 4] (pc' := 402) (lv' := [(0, .inr (.inl (some b))), (1, .inr (.inl (some a1))), (2, .inr (.inl (some (gM G)))), (3, .inr (.inl (some a3))), (4, .inl x4)]) (st' := []) rfl ?_
      exact wLw_law_j402 hG C hX hE hend a1 a3 k23 H23 _ _ _ _
    refine s_blk C 173 1 [] (pc' := 384) (lv' := []) (st' := [.inl 0]) rfl ?_
    exact s_none
  · obtain rfl : (366 : Int) = off := Option.some.inj hj
    refine ⟨405, by decide, ?_⟩
    dsimp only [tsl]
    refine s_blk C 187 5 [0, 1, 2, 3, 4] (pc' := 411) (lv' := [(0, .inr (.inl (some b))), (1, .inr (.inl (some a1))), (2, .inr (.inl (some (gM G)))), (3, .inr (.inl (some a3))), (4, .inl x4)]) (st' := [.inl (x4 + 1), .inr (.inl (some b)), .inr (.inl (some a1))]) rfl ?_
    refine s_sld C hX 192 rfl (fun v45 => ?_)
    refine s_blk C 193 4 [0, 1, 2, 3, 4] (pc' := 417) (lv' := [(0, .inr (.inl (some b))), (1, .inr (.inl (some a1))), (2, .inr (.inl (some (gM G)))), (3, .inr (.inl (some a3))), (4, .inl x4)]) (st' := [.inl (x4 + 2), .inr (.inl (some b)), .inl v45, .inr (.inl (some a1))]) rfl ?_
    refine s_sld C hX 197 rfl (fun v46 => ?_)
    refine s_blk C 198 4 [0, 1, 2, 3, 4] (pc' := 423) (lv' := [(0, .inr (.inl (some b))), (1, .inr (.inl (some a1))), (2, .inr (.inl (some (gM G)))), (3, .inr (.inl (some a3))), (4, .inl x4)]) (st' := [.inl (x4 + 3), .inr (.inl (some b)), .inl v46, .inl v45, .inr (.inl (some a1))]) rfl ?_
    refine s_sld C hX 202 rfl (fun v47 => ?_)
    refine s_blk C 203 1 [0, 1, 2, 3, 4] (pc' := 425) (lv' := [(0, .inr (.inl (some b))), (1, .inr (.inl (some a1))), (2, .inr (.inl (some (gM G)))), (3, .inr (.inl (some a3))), (4, .inl x4)]) (st' := [.inr (.inl (some a3)), .inl v47, .inl v46, .inl v45, .inr (.inl (some a1))]) rfl ?_
    refine s_L hE (st := []) (fun o ho => j_callSW (As := [.inr (.inl (some a1)), .inl v45, .inl v46, .inl v47, .inr (.inl (some a3))]) (st := []) C 204 rfl mf_Lw_drop ml_L_127 rfl (by decide) (by decide) (Nat.le_refl _) rfl (cLw_drop (CX_tr C) σ M n (some a1) v45 v46 v47 (some a3) o ho)) (fun v48 M49 n50 _ => ?_)
    refine s_blk C 205 6 [0, 1, 2, 3, 4, 5] (pc' := 436) (lv' := [(0, .inr (.inl (some b))), (1, .inr (.inl (some a1))), (2, .inr (.inl (some (gM G)))), (3, .inr (.inl (some a3))), (4, .inl x4), (5, .inl v48)]) (st' := [.inl (x4 + 1), .inr (.inl (some b)), .inr (.inl (some (gM G)))]) rfl ?_
    refine s_sld C hX 211 rfl (fun v51 => ?_)
    refine s_blk C 212 4 [0, 1, 2, 3, 4, 5] (pc' := 442) (lv' := [(0, .inr (.inl (some b))), (1, .inr (.inl (some a1))), (2, .inr (.inl (some (gM G)))), (3, .inr (.inl (some a3))), (4, .inl x4), (5, .inl v48)]) (st' := [.inl (x4 + 2), .inr (.inl (some b)), .inl v51, .inr (.inl (some (gM G)))]) rfl ?_
    refine s_sld C hX 216 rfl (fun v52 => ?_)
    refine s_blk C 217 4 [0, 1, 2, 3, 4, 5] (pc' := 448) (lv' := [(0, .inr (.inl (some b))), (1, .inr (.inl (some a1))), (2, .inr (.inl (some (gM G)))), (3, .inr (.inl (some a3))), (4, .inl x4), (5, .inl v48)]) (st' := [.inl (x4 + 3), .inr (.inl (some b)), .inl v52, .inl v51, .inr (.inl (some (gM G)))]) rfl ?_
    refine s_sld C hX 221 rfl (fun v53 => ?_)
    refine s_SI hE (st := []) (fun o ho => j_callV (As := [.inl v51, .inl v52, .inl v53]) (st := []) (b := gM G) C 222 rfl mf_Md_drop ml_L_129 rfl (recv_M hG C) (by decide) (by decide) (Nat.le_refl _) rfl (cMd_drop (CX_tr C) hG σ M49 n50 v51 v52 v53 o ho)) (fun v54 σ55 => ?_)
    refine s_blk C 223 2 [0, 1, 2, 3, 4, 5, 6] (pc' := 455) (lv' := [(0, .inr (.inl (some b))), (1, .inr (.inl (some a1))), (2, .inr (.inl (some (gM G)))), (3, .inr (.inl (some a3))), (4, .inl x4), (5, .inl v48), (6, .inl v54)]) (st' := [.inr (.inl (some (gM G)))]) rfl ?_
    refine s_RI hE (st := []) (fun o ho => j_callV (As := []) (st := []) (b := gM G) C 225 rfl mf_Md_thrown ml_L_112 rfl (recv_M hG C) (by decide) (by decide) (Nat.le_refl _) rfl (cMd_thrown (CX_tr C) hG σ55 M49 n50 o ho)) (fun v56 => ?_)
    refine s_blk C 226 1 [0, 1, 2, 3, 4, 5, 6] (pc' := 460) (lv' := [(0, .inr (.inl (some b))), (1, .inr (.inl (some a1))), (2, .inr (.inl (some (gM G)))), (3, .inr (.inl (some a3))), (4, .inl x4), (5, .inl v48), (6, .inl v54)]) (st' := [.inl v48, .inl v56]) rfl ?_
    refine s_iceq C 227 rfl (fun _ => ?_) (fun _ => ?_)
    · refine s_blk C 230 1 [0, 1, 2, 3, 4, 6] (pc' := 467) (lv' := [(0, .inr (.inl (some b))), (1, .inr (.inl (some a1))), (2, .inr (.inl (some (gM G)))), (3, .inr (.inl (some a3))), (4, .inl x4), (6, .inl v54)]) (st' := [.inl v48]) rfl ?_
      refine s_ine C 231 rfl (fun _ => ?_) (fun _ => ?_)
      · refine s_blk C 232 2 [0, 1, 2, 3, 4, 6] (pc' := 472) (lv' := [(0, .inr (.inl (some b))), (1, .inr (.inl (some a1))), (2, .inr (.inl (some (gM G)))), (3, .inr (.inl (some a3))), (4, .inl x4), (6, .inl v54)]) (st' := [.inl 0, .inr (.inl (some a3))]) rfl ?_
        refine s_ldJ C 234 rfl (fun j57 => ?_)
        refine s_blk C 235 2 [0, 1, 2, 3, 4] (pc' := 476) (lv' := [(0, .inr (.inl (some b))), (1, .inr (.inl (some a1))), (2, .inr (.inl (some (gM G)))), (3, .inr (.inl (some a3))), (4, .inl x4)]) (st' := [.inr (.inr ((v54).toInt64)), .inr (.inr j57)]) rfl ?_
        refine s_lcmp C 237 rfl ?_
        refine s_ieq C 238 rfl (fun _ => ?_) (fun _ => ?_)
        · exact wLw_law_j482 hG C hX hE hend a1 a3 k23 H23 _ _ _ _
        refine s_blk C 239 1 [] (pc' := 481) (lv' := []) (st' := [.inl 0]) rfl ?_
        exact s_none
      refine s_blk C 0 0 [0, 1, 2, 3, 4] (pc' := 482) (lv' := [(0, .inr (.inl (some b))), (1, .inr (.inl (some a1))), (2, .inr (.inl (some (gM G)))), (3, .inr (.inl (some a3))), (4, .inl x4)]) (st' := []) rfl ?_
      exact wLw_law_j482 hG C hX hE hend a1 a3 k23 H23 _ _ _ _
    refine s_blk C 228 1 [] (pc' := 464) (lv' := []) (st' := [.inl 0]) rfl ?_
    exact s_none
  · obtain rfl : (446 : Int) = off := Option.some.inj hj
    refine ⟨485, by decide, ?_⟩
    dsimp only [tsl]
    refine s_blk C 242 5 [0, 1, 2, 3, 4] (pc' := 491) (lv' := [(0, .inr (.inl (some b))), (1, .inr (.inl (some a1))), (2, .inr (.inl (some (gM G)))), (3, .inr (.inl (some a3))), (4, .inl x4)]) (st' := [.inl (x4 + 1), .inr (.inl (some b)), .inr (.inl (some a1))]) rfl ?_
    refine s_sld C hX 247 rfl (fun v58 => ?_)
    refine s_blk C 248 4 [0, 1, 2, 3, 4] (pc' := 497) (lv' := [(0, .inr (.inl (some b))), (1, .inr (.inl (some a1))), (2, .inr (.inl (some (gM G)))), (3, .inr (.inl (some a3))), (4, .inl x4)]) (st' := [.inl (x4 + 2), .inr (.inl (some b)), .inl v58, .inr (.inl (some a1))]) rfl ?_
    refine s_sld C hX 252 rfl (fun v59 => ?_)
    refine s_blk C 253 4 [0, 1, 2, 3, 4] (pc' := 503) (lv' := [(0, .inr (.inl (some b))), (1, .inr (.inl (some a1))), (2, .inr (.inl (some (gM G)))), (3, .inr (.inl (some a3))), (4, .inl x4)]) (st' := [.inl (x4 + 3), .inr (.inl (some b)), .inl v59, .inl v58, .inr (.inl (some a1))]) rfl ?_
    refine s_sld C hX 257 rfl (fun v60 => ?_)
    refine s_blk C 258 4 [0, 1, 2, 3, 4] (pc' := 509) (lv' := [(0, .inr (.inl (some b))), (1, .inr (.inl (some a1))), (2, .inr (.inl (some (gM G)))), (3, .inr (.inl (some a3))), (4, .inl x4)]) (st' := [.inl (x4 + 4), .inr (.inl (some b)), .inl v60, .inl v59, .inl v58, .inr (.inl (some a1))]) rfl ?_
    refine s_sld C hX 262 rfl (fun v61 => ?_)
    refine s_blk C 263 1 [0, 1, 2, 3, 4] (pc' := 511) (lv' := [(0, .inr (.inl (some b))), (1, .inr (.inl (some a1))), (2, .inr (.inl (some (gM G)))), (3, .inr (.inl (some a3))), (4, .inl x4)]) (st' := [.inr (.inl (some a3)), .inl v61, .inl v60, .inl v59, .inl v58, .inr (.inl (some a1))]) rfl ?_
    refine s_L hE (st := []) (fun o ho => j_callSW (As := [.inr (.inl (some a1)), .inl v58, .inl v59, .inl v60, .inl v61, .inr (.inl (some a3))]) (st := []) C 264 rfl mf_Lw_lock ml_L_130 rfl (by decide) (by decide) (Nat.le_refl _) rfl (cLw_lock (CX_tr C) σ M n (some a1) v58 v59 v60 v61 (some a3) o ho)) (fun v62 M63 n64 _ => ?_)
    refine s_blk C 265 6 [0, 1, 2, 3, 4, 5] (pc' := 522) (lv' := [(0, .inr (.inl (some b))), (1, .inr (.inl (some a1))), (2, .inr (.inl (some (gM G)))), (3, .inr (.inl (some a3))), (4, .inl x4), (5, .inl v62)]) (st' := [.inl (x4 + 1), .inr (.inl (some b)), .inr (.inl (some (gM G)))]) rfl ?_
    refine s_sld C hX 271 rfl (fun v65 => ?_)
    refine s_blk C 272 4 [0, 1, 2, 3, 4, 5] (pc' := 528) (lv' := [(0, .inr (.inl (some b))), (1, .inr (.inl (some a1))), (2, .inr (.inl (some (gM G)))), (3, .inr (.inl (some a3))), (4, .inl x4), (5, .inl v62)]) (st' := [.inl (x4 + 2), .inr (.inl (some b)), .inl v65, .inr (.inl (some (gM G)))]) rfl ?_
    refine s_sld C hX 276 rfl (fun v66 => ?_)
    refine s_blk C 277 4 [0, 1, 2, 3, 4, 5] (pc' := 534) (lv' := [(0, .inr (.inl (some b))), (1, .inr (.inl (some a1))), (2, .inr (.inl (some (gM G)))), (3, .inr (.inl (some a3))), (4, .inl x4), (5, .inl v62)]) (st' := [.inl (x4 + 3), .inr (.inl (some b)), .inl v66, .inl v65, .inr (.inl (some (gM G)))]) rfl ?_
    refine s_sld C hX 281 rfl (fun v67 => ?_)
    refine s_blk C 282 4 [0, 1, 2, 3, 4, 5] (pc' := 540) (lv' := [(0, .inr (.inl (some b))), (1, .inr (.inl (some a1))), (2, .inr (.inl (some (gM G)))), (3, .inr (.inl (some a3))), (4, .inl x4), (5, .inl v62)]) (st' := [.inl (x4 + 4), .inr (.inl (some b)), .inl v67, .inl v66, .inl v65, .inr (.inl (some (gM G)))]) rfl ?_
    refine s_sld C hX 286 rfl (fun v68 => ?_)
    refine s_SI hE (st := []) (fun o ho => j_callV (As := [.inl v65, .inl v66, .inl v67, .inl v68]) (st := []) (b := gM G) C 287 rfl mf_Md_lock ml_L_133 rfl (recv_M hG C) (by decide) (by decide) (Nat.le_refl _) rfl (cMd_lock (CX_tr C) hG σ M63 n64 v65 v66 v67 v68 o ho)) (fun v69 σ70 => ?_)
    refine s_blk C 288 2 [0, 1, 2, 3, 4, 5, 6] (pc' := 547) (lv' := [(0, .inr (.inl (some b))), (1, .inr (.inl (some a1))), (2, .inr (.inl (some (gM G)))), (3, .inr (.inl (some a3))), (4, .inl x4), (5, .inl v62), (6, .inl v69)]) (st' := [.inr (.inl (some (gM G)))]) rfl ?_
    refine s_RI hE (st := []) (fun o ho => j_callV (As := []) (st := []) (b := gM G) C 290 rfl mf_Md_thrown ml_L_112 rfl (recv_M hG C) (by decide) (by decide) (Nat.le_refl _) rfl (cMd_thrown (CX_tr C) hG σ70 M63 n64 o ho)) (fun v71 => ?_)
    refine s_blk C 291 1 [0, 1, 2, 3, 4, 5, 6] (pc' := 552) (lv' := [(0, .inr (.inl (some b))), (1, .inr (.inl (some a1))), (2, .inr (.inl (some (gM G)))), (3, .inr (.inl (some a3))), (4, .inl x4), (5, .inl v62), (6, .inl v69)]) (st' := [.inl v62, .inl v71]) rfl ?_
    refine s_iceq C 292 rfl (fun _ => ?_) (fun _ => ?_)
    · refine s_blk C 295 1 [0, 1, 2, 3, 4, 6] (pc' := 559) (lv' := [(0, .inr (.inl (some b))), (1, .inr (.inl (some a1))), (2, .inr (.inl (some (gM G)))), (3, .inr (.inl (some a3))), (4, .inl x4), (6, .inl v69)]) (st' := [.inl v62]) rfl ?_
      refine s_ine C 296 rfl (fun _ => ?_) (fun _ => ?_)
      · refine s_blk C 297 2 [0, 1, 2, 3, 4, 6] (pc' := 564) (lv' := [(0, .inr (.inl (some b))), (1, .inr (.inl (some a1))), (2, .inr (.inl (some (gM G)))), (3, .inr (.inl (some a3))), (4, .inl x4), (6, .inl v69)]) (st' := [.inl 0, .inr (.inl (some a3))]) rfl ?_
        refine s_ldJ C 299 rfl (fun j72 => ?_)
        refine s_blk C 300 2 [0, 1, 2, 3, 4] (pc' := 568) (lv' := [(0, .inr (.inl (some b))), (1, .inr (.inl (some a1))), (2, .inr (.inl (some (gM G)))), (3, .inr (.inl (some a3))), (4, .inl x4)]) (st' := [.inr (.inr ((v69).toInt64)), .inr (.inr j72)]) rfl ?_
        refine s_lcmp C 302 rfl ?_
        refine s_ieq C 303 rfl (fun _ => ?_) (fun _ => ?_)
        · exact wLw_law_j574 hG C hX hE hend a1 a3 k23 H23 _ _ _ _
        refine s_blk C 304 1 [] (pc' := 573) (lv' := []) (st' := [.inl 0]) rfl ?_
        exact s_none
      refine s_blk C 0 0 [0, 1, 2, 3, 4] (pc' := 574) (lv' := [(0, .inr (.inl (some b))), (1, .inr (.inl (some a1))), (2, .inr (.inl (some (gM G)))), (3, .inr (.inl (some a3))), (4, .inl x4)]) (st' := []) rfl ?_
      exact wLw_law_j574 hG C hX hE hend a1 a3 k23 H23 _ _ _ _
    refine s_blk C 293 1 [] (pc' := 556) (lv' := []) (st' := [.inl 0]) rfl ?_
    exact s_none
  · obtain rfl : (538 : Int) = off := Option.some.inj hj
    refine ⟨577, by decide, ?_⟩
    dsimp only [tsl]
    refine s_blk C 307 5 [0, 1, 2, 3, 4] (pc' := 583) (lv' := [(0, .inr (.inl (some b))), (1, .inr (.inl (some a1))), (2, .inr (.inl (some (gM G)))), (3, .inr (.inl (some a3))), (4, .inl x4)]) (st' := [.inl (x4 + 1), .inr (.inl (some b)), .inr (.inl (some a1))]) rfl ?_
    refine s_sld C hX 312 rfl (fun v73 => ?_)
    refine s_blk C 313 4 [0, 1, 2, 3, 4] (pc' := 589) (lv' := [(0, .inr (.inl (some b))), (1, .inr (.inl (some a1))), (2, .inr (.inl (some (gM G)))), (3, .inr (.inl (some a3))), (4, .inl x4)]) (st' := [.inl (x4 + 2), .inr (.inl (some b)), .inl v73, .inr (.inl (some a1))]) rfl ?_
    refine s_sld C hX 317 rfl (fun v74 => ?_)
    refine s_blk C 318 4 [0, 1, 2, 3, 4] (pc' := 595) (lv' := [(0, .inr (.inl (some b))), (1, .inr (.inl (some a1))), (2, .inr (.inl (some (gM G)))), (3, .inr (.inl (some a3))), (4, .inl x4)]) (st' := [.inl (x4 + 3), .inr (.inl (some b)), .inl v74, .inl v73, .inr (.inl (some a1))]) rfl ?_
    refine s_sld C hX 322 rfl (fun v75 => ?_)
    refine s_blk C 323 4 [0, 1, 2, 3, 4] (pc' := 601) (lv' := [(0, .inr (.inl (some b))), (1, .inr (.inl (some a1))), (2, .inr (.inl (some (gM G)))), (3, .inr (.inl (some a3))), (4, .inl x4)]) (st' := [.inl (x4 + 4), .inr (.inl (some b)), .inl v75, .inl v74, .inl v73, .inr (.inl (some a1))]) rfl ?_
    refine s_sld C hX 327 rfl (fun v76 => ?_)
    refine s_blk C 328 1 [0, 1, 2, 3, 4] (pc' := 603) (lv' := [(0, .inr (.inl (some b))), (1, .inr (.inl (some a1))), (2, .inr (.inl (some (gM G)))), (3, .inr (.inl (some a3))), (4, .inl x4)]) (st' := [.inr (.inl (some a3)), .inl v76, .inl v75, .inl v74, .inl v73, .inr (.inl (some a1))]) rfl ?_
    refine s_L hE (st := []) (fun o ho => j_callSW (As := [.inr (.inl (some a1)), .inl v73, .inl v74, .inl v75, .inl v76, .inr (.inl (some a3))]) (st := []) C 329 rfl mf_Lw_read ml_L_134 rfl (by decide) (by decide) (Nat.le_refl _) rfl (cLw_read (CX_tr C) σ M n (some a1) v73 v74 v75 v76 (some a3) o ho)) (fun v77 M78 n79 _ => ?_)
    refine s_blk C 330 6 [0, 1, 2, 3, 4, 5] (pc' := 614) (lv' := [(0, .inr (.inl (some b))), (1, .inr (.inl (some a1))), (2, .inr (.inl (some (gM G)))), (3, .inr (.inl (some a3))), (4, .inl x4), (5, .inl v77)]) (st' := [.inl (x4 + 1), .inr (.inl (some b)), .inr (.inl (some (gM G)))]) rfl ?_
    refine s_sld C hX 336 rfl (fun v80 => ?_)
    refine s_blk C 337 4 [0, 1, 2, 3, 4, 5] (pc' := 620) (lv' := [(0, .inr (.inl (some b))), (1, .inr (.inl (some a1))), (2, .inr (.inl (some (gM G)))), (3, .inr (.inl (some a3))), (4, .inl x4), (5, .inl v77)]) (st' := [.inl (x4 + 2), .inr (.inl (some b)), .inl v80, .inr (.inl (some (gM G)))]) rfl ?_
    refine s_sld C hX 341 rfl (fun v81 => ?_)
    refine s_blk C 342 4 [0, 1, 2, 3, 4, 5] (pc' := 626) (lv' := [(0, .inr (.inl (some b))), (1, .inr (.inl (some a1))), (2, .inr (.inl (some (gM G)))), (3, .inr (.inl (some a3))), (4, .inl x4), (5, .inl v77)]) (st' := [.inl (x4 + 3), .inr (.inl (some b)), .inl v81, .inl v80, .inr (.inl (some (gM G)))]) rfl ?_
    refine s_sld C hX 346 rfl (fun v82 => ?_)
    refine s_blk C 347 4 [0, 1, 2, 3, 4, 5] (pc' := 632) (lv' := [(0, .inr (.inl (some b))), (1, .inr (.inl (some a1))), (2, .inr (.inl (some (gM G)))), (3, .inr (.inl (some a3))), (4, .inl x4), (5, .inl v77)]) (st' := [.inl (x4 + 4), .inr (.inl (some b)), .inl v82, .inl v81, .inl v80, .inr (.inl (some (gM G)))]) rfl ?_
    refine s_sld C hX 351 rfl (fun v83 => ?_)
    refine s_SI hE (st := []) (fun o ho => j_callV (As := [.inl v80, .inl v81, .inl v82, .inl v83]) (st := []) (b := gM G) C 352 rfl mf_Md_read ml_L_136 rfl (recv_M hG C) (by decide) (by decide) (Nat.le_refl _) rfl (cMd_read (CX_tr C) hG σ M78 n79 v80 v81 v82 v83 o ho)) (fun v84 σ85 => ?_)
    refine s_blk C 353 2 [0, 1, 2, 3, 4, 5, 6] (pc' := 639) (lv' := [(0, .inr (.inl (some b))), (1, .inr (.inl (some a1))), (2, .inr (.inl (some (gM G)))), (3, .inr (.inl (some a3))), (4, .inl x4), (5, .inl v77), (6, .inl v84)]) (st' := [.inr (.inl (some (gM G)))]) rfl ?_
    refine s_RI hE (st := []) (fun o ho => j_callV (As := []) (st := []) (b := gM G) C 355 rfl mf_Md_thrown ml_L_112 rfl (recv_M hG C) (by decide) (by decide) (Nat.le_refl _) rfl (cMd_thrown (CX_tr C) hG σ85 M78 n79 o ho)) (fun v86 => ?_)
    refine s_blk C 356 1 [0, 1, 2, 3, 4, 5, 6] (pc' := 644) (lv' := [(0, .inr (.inl (some b))), (1, .inr (.inl (some a1))), (2, .inr (.inl (some (gM G)))), (3, .inr (.inl (some a3))), (4, .inl x4), (5, .inl v77), (6, .inl v84)]) (st' := [.inl v77, .inl v86]) rfl ?_
    refine s_iceq C 357 rfl (fun _ => ?_) (fun _ => ?_)
    · refine s_blk C 360 1 [0, 1, 2, 3, 4, 6] (pc' := 651) (lv' := [(0, .inr (.inl (some b))), (1, .inr (.inl (some a1))), (2, .inr (.inl (some (gM G)))), (3, .inr (.inl (some a3))), (4, .inl x4), (6, .inl v84)]) (st' := [.inl v77]) rfl ?_
      refine s_ine C 361 rfl (fun _ => ?_) (fun _ => ?_)
      · refine s_blk C 362 2 [0, 1, 2, 3, 4, 6] (pc' := 656) (lv' := [(0, .inr (.inl (some b))), (1, .inr (.inl (some a1))), (2, .inr (.inl (some (gM G)))), (3, .inr (.inl (some a3))), (4, .inl x4), (6, .inl v84)]) (st' := [.inl 0, .inr (.inl (some a3))]) rfl ?_
        refine s_ldJ C 364 rfl (fun j87 => ?_)
        refine s_blk C 365 2 [0, 1, 2, 3, 4] (pc' := 660) (lv' := [(0, .inr (.inl (some b))), (1, .inr (.inl (some a1))), (2, .inr (.inl (some (gM G)))), (3, .inr (.inl (some a3))), (4, .inl x4)]) (st' := [.inr (.inr ((v84).toInt64)), .inr (.inr j87)]) rfl ?_
        refine s_lcmp C 367 rfl ?_
        refine s_ieq C 368 rfl (fun _ => ?_) (fun _ => ?_)
        · exact wLw_law_j666 hG C hX hE hend a1 a3 k23 H23 _ _ _ _
        refine s_blk C 369 1 [] (pc' := 665) (lv' := []) (st' := [.inl 0]) rfl ?_
        exact s_none
      refine s_blk C 0 0 [0, 1, 2, 3, 4] (pc' := 666) (lv' := [(0, .inr (.inl (some b))), (1, .inr (.inl (some a1))), (2, .inr (.inl (some (gM G)))), (3, .inr (.inl (some a3))), (4, .inl x4)]) (st' := []) rfl ?_
      exact wLw_law_j666 hG C hX hE hend a1 a3 k23 H23 _ _ _ _
    refine s_blk C 358 1 [] (pc' := 648) (lv' := []) (st' := [.inl 0]) rfl ?_
    exact s_none
  · obtain rfl : (630 : Int) = off := Option.some.inj hj
    refine ⟨669, by decide, ?_⟩
    dsimp only [tsl]
    refine s_blk C 372 5 [0, 1, 2, 3, 4] (pc' := 675) (lv' := [(0, .inr (.inl (some b))), (1, .inr (.inl (some a1))), (2, .inr (.inl (some (gM G)))), (3, .inr (.inl (some a3))), (4, .inl x4)]) (st' := [.inl (x4 + 1), .inr (.inl (some b)), .inr (.inl (some a1))]) rfl ?_
    refine s_sld C hX 377 rfl (fun v88 => ?_)
    refine s_blk C 378 4 [0, 1, 2, 3, 4] (pc' := 681) (lv' := [(0, .inr (.inl (some b))), (1, .inr (.inl (some a1))), (2, .inr (.inl (some (gM G)))), (3, .inr (.inl (some a3))), (4, .inl x4)]) (st' := [.inl (x4 + 2), .inr (.inl (some b)), .inl v88, .inr (.inl (some a1))]) rfl ?_
    refine s_sld C hX 382 rfl (fun v89 => ?_)
    refine s_blk C 383 4 [0, 1, 2, 3, 4] (pc' := 687) (lv' := [(0, .inr (.inl (some b))), (1, .inr (.inl (some a1))), (2, .inr (.inl (some (gM G)))), (3, .inr (.inl (some a3))), (4, .inl x4)]) (st' := [.inl (x4 + 3), .inr (.inl (some b)), .inl v89, .inl v88, .inr (.inl (some a1))]) rfl ?_
    refine s_sld C hX 387 rfl (fun v90 => ?_)
    refine s_blk C 388 1 [0, 1, 2, 3, 4] (pc' := 689) (lv' := [(0, .inr (.inl (some b))), (1, .inr (.inl (some a1))), (2, .inr (.inl (some (gM G)))), (3, .inr (.inl (some a3))), (4, .inl x4)]) (st' := [.inr (.inl (some a3)), .inl v90, .inl v89, .inl v88, .inr (.inl (some a1))]) rfl ?_
    refine s_L hE (st := []) (fun o ho => j_callSW (As := [.inr (.inl (some a1)), .inl v88, .inl v89, .inl v90, .inr (.inl (some a3))]) (st := []) C 389 rfl mf_Lw_ask ml_L_137 rfl (by decide) (by decide) (Nat.le_refl _) rfl (cLw_ask (CX_tr C) σ M n (some a1) v88 v89 v90 (some a3) o ho)) (fun v91 M92 n93 _ => ?_)
    refine s_blk C 390 6 [0, 1, 2, 3, 4, 5] (pc' := 700) (lv' := [(0, .inr (.inl (some b))), (1, .inr (.inl (some a1))), (2, .inr (.inl (some (gM G)))), (3, .inr (.inl (some a3))), (4, .inl x4), (5, .inl v91)]) (st' := [.inl (x4 + 1), .inr (.inl (some b)), .inr (.inl (some (gM G)))]) rfl ?_
    refine s_sld C hX 396 rfl (fun v94 => ?_)
    refine s_blk C 397 4 [0, 1, 2, 3, 4, 5] (pc' := 706) (lv' := [(0, .inr (.inl (some b))), (1, .inr (.inl (some a1))), (2, .inr (.inl (some (gM G)))), (3, .inr (.inl (some a3))), (4, .inl x4), (5, .inl v91)]) (st' := [.inl (x4 + 2), .inr (.inl (some b)), .inl v94, .inr (.inl (some (gM G)))]) rfl ?_
    refine s_sld C hX 401 rfl (fun v95 => ?_)
    refine s_blk C 402 4 [0, 1, 2, 3, 4, 5] (pc' := 712) (lv' := [(0, .inr (.inl (some b))), (1, .inr (.inl (some a1))), (2, .inr (.inl (some (gM G)))), (3, .inr (.inl (some a3))), (4, .inl x4), (5, .inl v91)]) (st' := [.inl (x4 + 3), .inr (.inl (some b)), .inl v95, .inl v94, .inr (.inl (some (gM G)))]) rfl ?_
    refine s_sld C hX 406 rfl (fun v96 => ?_)
    refine s_SI hE (st := []) (fun o ho => j_callV (As := [.inl v94, .inl v95, .inl v96]) (st := []) (b := gM G) C 407 rfl mf_Md_ask ml_L_139 rfl (recv_M hG C) (by decide) (by decide) (Nat.le_refl _) rfl (cMd_ask (CX_tr C) hG σ M92 n93 v94 v95 v96 o ho)) (fun v97 σ98 => ?_)
    refine s_blk C 408 2 [0, 1, 2, 3, 4, 5, 6] (pc' := 719) (lv' := [(0, .inr (.inl (some b))), (1, .inr (.inl (some a1))), (2, .inr (.inl (some (gM G)))), (3, .inr (.inl (some a3))), (4, .inl x4), (5, .inl v91), (6, .inl v97)]) (st' := [.inr (.inl (some (gM G)))]) rfl ?_
    refine s_RI hE (st := []) (fun o ho => j_callV (As := []) (st := []) (b := gM G) C 410 rfl mf_Md_thrown ml_L_112 rfl (recv_M hG C) (by decide) (by decide) (Nat.le_refl _) rfl (cMd_thrown (CX_tr C) hG σ98 M92 n93 o ho)) (fun v99 => ?_)
    refine s_blk C 411 1 [0, 1, 2, 3, 4, 5, 6] (pc' := 724) (lv' := [(0, .inr (.inl (some b))), (1, .inr (.inl (some a1))), (2, .inr (.inl (some (gM G)))), (3, .inr (.inl (some a3))), (4, .inl x4), (5, .inl v91), (6, .inl v97)]) (st' := [.inl v91, .inl v99]) rfl ?_
    refine s_iceq C 412 rfl (fun _ => ?_) (fun _ => ?_)
    · refine s_blk C 415 1 [0, 1, 2, 3, 4, 6] (pc' := 731) (lv' := [(0, .inr (.inl (some b))), (1, .inr (.inl (some a1))), (2, .inr (.inl (some (gM G)))), (3, .inr (.inl (some a3))), (4, .inl x4), (6, .inl v97)]) (st' := [.inl v91]) rfl ?_
      refine s_ine C 416 rfl (fun _ => ?_) (fun _ => ?_)
      · refine s_blk C 417 2 [0, 1, 2, 3, 4, 6] (pc' := 736) (lv' := [(0, .inr (.inl (some b))), (1, .inr (.inl (some a1))), (2, .inr (.inl (some (gM G)))), (3, .inr (.inl (some a3))), (4, .inl x4), (6, .inl v97)]) (st' := [.inl 0, .inr (.inl (some a3))]) rfl ?_
        refine s_ldJ C 419 rfl (fun j100 => ?_)
        refine s_blk C 420 2 [0, 1, 2, 3, 4] (pc' := 740) (lv' := [(0, .inr (.inl (some b))), (1, .inr (.inl (some a1))), (2, .inr (.inl (some (gM G)))), (3, .inr (.inl (some a3))), (4, .inl x4)]) (st' := [.inr (.inr ((v97).toInt64)), .inr (.inr j100)]) rfl ?_
        refine s_lcmp C 422 rfl ?_
        refine s_ieq C 423 rfl (fun _ => ?_) (fun _ => ?_)
        · exact wLw_law_j746 hG C hX hE hend a1 a3 k23 H23 _ _ _ _
        refine s_blk C 424 1 [] (pc' := 745) (lv' := []) (st' := [.inl 0]) rfl ?_
        exact s_none
      refine s_blk C 0 0 [0, 1, 2, 3, 4] (pc' := 746) (lv' := [(0, .inr (.inl (some b))), (1, .inr (.inl (some a1))), (2, .inr (.inl (some (gM G)))), (3, .inr (.inl (some a3))), (4, .inl x4)]) (st' := []) rfl ?_
      exact wLw_law_j746 hG C hX hE hend a1 a3 k23 H23 _ _ _ _
    refine s_blk C 413 1 [] (pc' := 728) (lv' := []) (st' := [.inl 0]) rfl ?_
    exact s_none
  · obtain rfl : (710 : Int) = off := Option.some.inj hj
    refine ⟨749, by decide, ?_⟩
    dsimp only [tsl]
    refine s_blk C 427 5 [0, 1, 2, 3, 4] (pc' := 755) (lv' := [(0, .inr (.inl (some b))), (1, .inr (.inl (some a1))), (2, .inr (.inl (some (gM G)))), (3, .inr (.inl (some a3))), (4, .inl x4)]) (st' := [.inl (x4 + 1), .inr (.inl (some b)), .inr (.inl (some a1))]) rfl ?_
    refine s_sld C hX 432 rfl (fun v101 => ?_)
    refine s_blk C 433 4 [0, 1, 2, 3, 4] (pc' := 761) (lv' := [(0, .inr (.inl (some b))), (1, .inr (.inl (some a1))), (2, .inr (.inl (some (gM G)))), (3, .inr (.inl (some a3))), (4, .inl x4)]) (st' := [.inl (x4 + 2), .inr (.inl (some b)), .inl v101, .inr (.inl (some a1))]) rfl ?_
    refine s_sld C hX 437 rfl (fun v102 => ?_)
    refine s_blk C 438 1 [0, 1, 2, 3, 4] (pc' := 763) (lv' := [(0, .inr (.inl (some b))), (1, .inr (.inl (some a1))), (2, .inr (.inl (some (gM G)))), (3, .inr (.inl (some a3))), (4, .inl x4)]) (st' := [.inr (.inl (some a3)), .inl v102, .inl v101, .inr (.inl (some a1))]) rfl ?_
    refine s_L hE (st := []) (fun o ho => j_callSW (As := [.inr (.inl (some a1)), .inl v101, .inl v102, .inr (.inl (some a3))]) (st := []) C 439 rfl mf_Lw_upload ml_L_140 rfl (by decide) (by decide) (Nat.le_refl _) rfl (cLw_upload (CX_tr C) σ M n (some a1) v101 v102 (some a3) o ho)) (fun v103 M104 n105 _ => ?_)
    refine s_blk C 440 6 [0, 1, 2, 3, 4, 5] (pc' := 774) (lv' := [(0, .inr (.inl (some b))), (1, .inr (.inl (some a1))), (2, .inr (.inl (some (gM G)))), (3, .inr (.inl (some a3))), (4, .inl x4), (5, .inl v103)]) (st' := [.inl (x4 + 1), .inr (.inl (some b)), .inr (.inl (some (gM G)))]) rfl ?_
    refine s_sld C hX 446 rfl (fun v106 => ?_)
    refine s_blk C 447 4 [0, 1, 2, 3, 4, 5] (pc' := 780) (lv' := [(0, .inr (.inl (some b))), (1, .inr (.inl (some a1))), (2, .inr (.inl (some (gM G)))), (3, .inr (.inl (some a3))), (4, .inl x4), (5, .inl v103)]) (st' := [.inl (x4 + 2), .inr (.inl (some b)), .inl v106, .inr (.inl (some (gM G)))]) rfl ?_
    refine s_sld C hX 451 rfl (fun v107 => ?_)
    refine s_SI hE (st := []) (fun o ho => j_callV (As := [.inl v106, .inl v107]) (st := []) (b := gM G) C 452 rfl mf_Md_upload ml_L_142 rfl (recv_M hG C) (by decide) (by decide) (Nat.le_refl _) rfl (cMd_upload (CX_tr C) hG σ M104 n105 v106 v107 o ho)) (fun v108 σ109 => ?_)
    refine s_blk C 453 2 [0, 1, 2, 3, 4, 5, 6] (pc' := 787) (lv' := [(0, .inr (.inl (some b))), (1, .inr (.inl (some a1))), (2, .inr (.inl (some (gM G)))), (3, .inr (.inl (some a3))), (4, .inl x4), (5, .inl v103), (6, .inl v108)]) (st' := [.inr (.inl (some (gM G)))]) rfl ?_
    refine s_RI hE (st := []) (fun o ho => j_callV (As := []) (st := []) (b := gM G) C 455 rfl mf_Md_thrown ml_L_112 rfl (recv_M hG C) (by decide) (by decide) (Nat.le_refl _) rfl (cMd_thrown (CX_tr C) hG σ109 M104 n105 o ho)) (fun v110 => ?_)
    refine s_blk C 456 1 [0, 1, 2, 3, 4, 5, 6] (pc' := 792) (lv' := [(0, .inr (.inl (some b))), (1, .inr (.inl (some a1))), (2, .inr (.inl (some (gM G)))), (3, .inr (.inl (some a3))), (4, .inl x4), (5, .inl v103), (6, .inl v108)]) (st' := [.inl v103, .inl v110]) rfl ?_
    refine s_iceq C 457 rfl (fun _ => ?_) (fun _ => ?_)
    · refine s_blk C 460 1 [0, 1, 2, 3, 4, 6] (pc' := 799) (lv' := [(0, .inr (.inl (some b))), (1, .inr (.inl (some a1))), (2, .inr (.inl (some (gM G)))), (3, .inr (.inl (some a3))), (4, .inl x4), (6, .inl v108)]) (st' := [.inl v103]) rfl ?_
      refine s_ine C 461 rfl (fun _ => ?_) (fun _ => ?_)
      · refine s_blk C 462 2 [0, 1, 2, 3, 4, 6] (pc' := 804) (lv' := [(0, .inr (.inl (some b))), (1, .inr (.inl (some a1))), (2, .inr (.inl (some (gM G)))), (3, .inr (.inl (some a3))), (4, .inl x4), (6, .inl v108)]) (st' := [.inl 0, .inr (.inl (some a3))]) rfl ?_
        refine s_ldJ C 464 rfl (fun j111 => ?_)
        refine s_blk C 465 2 [0, 1, 2, 3, 4] (pc' := 808) (lv' := [(0, .inr (.inl (some b))), (1, .inr (.inl (some a1))), (2, .inr (.inl (some (gM G)))), (3, .inr (.inl (some a3))), (4, .inl x4)]) (st' := [.inr (.inr ((v108).toInt64)), .inr (.inr j111)]) rfl ?_
        refine s_lcmp C 467 rfl ?_
        refine s_ieq C 468 rfl (fun _ => ?_) (fun _ => ?_)
        · exact wLw_law_j814 hG C hX hE hend a1 a3 k23 H23 _ _ _ _
        refine s_blk C 469 1 [] (pc' := 813) (lv' := []) (st' := [.inl 0]) rfl ?_
        exact s_none
      refine s_blk C 0 0 [0, 1, 2, 3, 4] (pc' := 814) (lv' := [(0, .inr (.inl (some b))), (1, .inr (.inl (some a1))), (2, .inr (.inl (some (gM G)))), (3, .inr (.inl (some a3))), (4, .inl x4)]) (st' := []) rfl ?_
      exact wLw_law_j814 hG C hX hE hend a1 a3 k23 H23 _ _ _ _
    refine s_blk C 458 1 [] (pc' := 796) (lv' := []) (st' := [.inl 0]) rfl ?_
    exact s_none
  · obtain rfl : (778 : Int) = off := Option.some.inj hj
    refine ⟨817, by decide, ?_⟩
    dsimp only [tsl]
    refine s_blk C 472 5 [0, 1, 2, 3, 4] (pc' := 823) (lv' := [(0, .inr (.inl (some b))), (1, .inr (.inl (some a1))), (2, .inr (.inl (some (gM G)))), (3, .inr (.inl (some a3))), (4, .inl x4)]) (st' := [.inl (x4 + 1), .inr (.inl (some b)), .inr (.inl (some a1))]) rfl ?_
    refine s_sld C hX 477 rfl (fun v112 => ?_)
    refine s_blk C 478 4 [0, 1, 2, 3, 4] (pc' := 829) (lv' := [(0, .inr (.inl (some b))), (1, .inr (.inl (some a1))), (2, .inr (.inl (some (gM G)))), (3, .inr (.inl (some a3))), (4, .inl x4)]) (st' := [.inl (x4 + 2), .inr (.inl (some b)), .inl v112, .inr (.inl (some a1))]) rfl ?_
    refine s_sld C hX 482 rfl (fun v113 => ?_)
    refine s_blk C 483 1 [0, 1, 2, 3, 4] (pc' := 831) (lv' := [(0, .inr (.inl (some b))), (1, .inr (.inl (some a1))), (2, .inr (.inl (some (gM G)))), (3, .inr (.inl (some a3))), (4, .inl x4)]) (st' := [.inr (.inl (some a3)), .inl v113, .inl v112, .inr (.inl (some a1))]) rfl ?_
    refine s_L hE (st := []) (fun o ho => j_callSW (As := [.inr (.inl (some a1)), .inl v112, .inl v113, .inr (.inl (some a3))]) (st := []) C 484 rfl mf_Lw_piece ml_L_143 rfl (by decide) (by decide) (Nat.le_refl _) rfl (cLw_piece (CX_tr C) σ M n (some a1) v112 v113 (some a3) o ho)) (fun v114 M115 n116 _ => ?_)
    refine s_blk C 485 6 [0, 1, 2, 3, 4, 5] (pc' := 842) (lv' := [(0, .inr (.inl (some b))), (1, .inr (.inl (some a1))), (2, .inr (.inl (some (gM G)))), (3, .inr (.inl (some a3))), (4, .inl x4), (5, .inl v114)]) (st' := [.inl (x4 + 1), .inr (.inl (some b)), .inr (.inl (some (gM G)))]) rfl ?_
    refine s_sld C hX 491 rfl (fun v117 => ?_)
    refine s_blk C 492 4 [0, 1, 2, 3, 4, 5] (pc' := 848) (lv' := [(0, .inr (.inl (some b))), (1, .inr (.inl (some a1))), (2, .inr (.inl (some (gM G)))), (3, .inr (.inl (some a3))), (4, .inl x4), (5, .inl v114)]) (st' := [.inl (x4 + 2), .inr (.inl (some b)), .inl v117, .inr (.inl (some (gM G)))]) rfl ?_
    refine s_sld C hX 496 rfl (fun v118 => ?_)
    refine s_SI hE (st := []) (fun o ho => j_callV (As := [.inl v117, .inl v118]) (st := []) (b := gM G) C 497 rfl mf_Md_piece ml_L_145 rfl (recv_M hG C) (by decide) (by decide) (Nat.le_refl _) rfl (cMd_piece (CX_tr C) hG σ M115 n116 v117 v118 o ho)) (fun v119 σ120 => ?_)
    refine s_blk C 498 2 [0, 1, 2, 3, 4, 5, 6] (pc' := 855) (lv' := [(0, .inr (.inl (some b))), (1, .inr (.inl (some a1))), (2, .inr (.inl (some (gM G)))), (3, .inr (.inl (some a3))), (4, .inl x4), (5, .inl v114), (6, .inl v119)]) (st' := [.inr (.inl (some (gM G)))]) rfl ?_
    refine s_RI hE (st := []) (fun o ho => j_callV (As := []) (st := []) (b := gM G) C 500 rfl mf_Md_thrown ml_L_112 rfl (recv_M hG C) (by decide) (by decide) (Nat.le_refl _) rfl (cMd_thrown (CX_tr C) hG σ120 M115 n116 o ho)) (fun v121 => ?_)
    refine s_blk C 501 1 [0, 1, 2, 3, 4, 5, 6] (pc' := 860) (lv' := [(0, .inr (.inl (some b))), (1, .inr (.inl (some a1))), (2, .inr (.inl (some (gM G)))), (3, .inr (.inl (some a3))), (4, .inl x4), (5, .inl v114), (6, .inl v119)]) (st' := [.inl v114, .inl v121]) rfl ?_
    refine s_iceq C 502 rfl (fun _ => ?_) (fun _ => ?_)
    · refine s_blk C 505 1 [0, 1, 2, 3, 4, 6] (pc' := 867) (lv' := [(0, .inr (.inl (some b))), (1, .inr (.inl (some a1))), (2, .inr (.inl (some (gM G)))), (3, .inr (.inl (some a3))), (4, .inl x4), (6, .inl v119)]) (st' := [.inl v114]) rfl ?_
      refine s_ine C 506 rfl (fun _ => ?_) (fun _ => ?_)
      · refine s_blk C 507 2 [0, 1, 2, 3, 4, 6] (pc' := 872) (lv' := [(0, .inr (.inl (some b))), (1, .inr (.inl (some a1))), (2, .inr (.inl (some (gM G)))), (3, .inr (.inl (some a3))), (4, .inl x4), (6, .inl v119)]) (st' := [.inl 0, .inr (.inl (some a3))]) rfl ?_
        refine s_ldJ C 509 rfl (fun j122 => ?_)
        refine s_blk C 510 2 [0, 1, 2, 3, 4] (pc' := 876) (lv' := [(0, .inr (.inl (some b))), (1, .inr (.inl (some a1))), (2, .inr (.inl (some (gM G)))), (3, .inr (.inl (some a3))), (4, .inl x4)]) (st' := [.inr (.inr ((v119).toInt64)), .inr (.inr j122)]) rfl ?_
        refine s_lcmp C 512 rfl ?_
        refine s_ieq C 513 rfl (fun _ => ?_) (fun _ => ?_)
        · exact wLw_law_j882 hG C hX hE hend a1 a3 k23 H23 _ _ _ _
        refine s_blk C 514 1 [] (pc' := 881) (lv' := []) (st' := [.inl 0]) rfl ?_
        exact s_none
      refine s_blk C 0 0 [0, 1, 2, 3, 4] (pc' := 882) (lv' := [(0, .inr (.inl (some b))), (1, .inr (.inl (some a1))), (2, .inr (.inl (some (gM G)))), (3, .inr (.inl (some a3))), (4, .inl x4)]) (st' := []) rfl ?_
      exact wLw_law_j882 hG C hX hE hend a1 a3 k23 H23 _ _ _ _
    refine s_blk C 503 1 [] (pc' := 864) (lv' := []) (st' := [.inl 0]) rfl ?_
    exact s_none
  · obtain rfl : (846 : Int) = off := Option.some.inj hj
    refine ⟨885, by decide, ?_⟩
    dsimp only [tsl]
    refine s_blk C 517 5 [0, 1, 2, 3, 4] (pc' := 891) (lv' := [(0, .inr (.inl (some b))), (1, .inr (.inl (some a1))), (2, .inr (.inl (some (gM G)))), (3, .inr (.inl (some a3))), (4, .inl x4)]) (st' := [.inl (x4 + 1), .inr (.inl (some b)), .inr (.inl (some a1))]) rfl ?_
    refine s_sld C hX 522 rfl (fun v123 => ?_)
    refine s_blk C 523 4 [0, 1, 2, 3, 4] (pc' := 897) (lv' := [(0, .inr (.inl (some b))), (1, .inr (.inl (some a1))), (2, .inr (.inl (some (gM G)))), (3, .inr (.inl (some a3))), (4, .inl x4)]) (st' := [.inl (x4 + 2), .inr (.inl (some b)), .inl v123, .inr (.inl (some a1))]) rfl ?_
    refine s_sld C hX 527 rfl (fun v124 => ?_)
    refine s_ieq C 528 rfl (fun _ => ?_) (fun _ => ?_)
    · refine s_blk C 531 1 [0, 1, 2, 3, 4] (pc' := 906) (lv' := [(0, .inr (.inl (some b))), (1, .inr (.inl (some a1))), (2, .inr (.inl (some (gM G)))), (3, .inr (.inl (some a3))), (4, .inl x4)]) (st' := [.inl 0, .inl v123, .inr (.inl (some a1))]) rfl ?_
      exact wLw_law_j906 hG C hX hE hend a1 a3 k23 H23 _ _ _ _ _ _
    refine s_blk C 529 2 [0, 1, 2, 3, 4] (pc' := 906) (lv' := [(0, .inr (.inl (some b))), (1, .inr (.inl (some a1))), (2, .inr (.inl (some (gM G)))), (3, .inr (.inl (some a3))), (4, .inl x4)]) (st' := [.inl 1, .inl v123, .inr (.inl (some a1))]) rfl ?_
    exact wLw_law_j906 hG C hX hE hend a1 a3 k23 H23 _ _ _ _ _ _
  · obtain rfl : (930 : Int) = off := Option.some.inj hj
    refine ⟨969, by decide, ?_⟩
    dsimp only [tsl]
    refine s_blk C 570 5 [0, 1, 2, 3, 4] (pc' := 975) (lv' := [(0, .inr (.inl (some b))), (1, .inr (.inl (some a1))), (2, .inr (.inl (some (gM G)))), (3, .inr (.inl (some a3))), (4, .inl x4)]) (st' := [.inl (x4 + 1), .inr (.inl (some b)), .inr (.inl (some a1))]) rfl ?_
    refine s_sld C hX 575 rfl (fun v125 => ?_)
    refine s_blk C 576 4 [0, 1, 2, 3, 4] (pc' := 981) (lv' := [(0, .inr (.inl (some b))), (1, .inr (.inl (some a1))), (2, .inr (.inl (some (gM G)))), (3, .inr (.inl (some a3))), (4, .inl x4)]) (st' := [.inl (x4 + 2), .inr (.inl (some b)), .inl v125, .inr (.inl (some a1))]) rfl ?_
    refine s_sld C hX 580 rfl (fun v126 => ?_)
    refine s_blk C 581 4 [0, 1, 2, 3, 4] (pc' := 987) (lv' := [(0, .inr (.inl (some b))), (1, .inr (.inl (some a1))), (2, .inr (.inl (some (gM G)))), (3, .inr (.inl (some a3))), (4, .inl x4)]) (st' := [.inl (x4 + 3), .inr (.inl (some b)), .inl v126, .inl v125, .inr (.inl (some a1))]) rfl ?_
    refine s_sld C hX 585 rfl (fun v127 => ?_)
    refine s_blk C 586 4 [0, 1, 2, 3, 4] (pc' := 993) (lv' := [(0, .inr (.inl (some b))), (1, .inr (.inl (some a1))), (2, .inr (.inl (some (gM G)))), (3, .inr (.inl (some a3))), (4, .inl x4)]) (st' := [.inl (x4 + 4), .inr (.inl (some b)), .inl v127, .inl v126, .inl v125, .inr (.inl (some a1))]) rfl ?_
    refine s_sld C hX 590 rfl (fun v128 => ?_)
    refine s_blk C 591 1 [0, 1, 2, 3, 4] (pc' := 995) (lv' := [(0, .inr (.inl (some b))), (1, .inr (.inl (some a1))), (2, .inr (.inl (some (gM G)))), (3, .inr (.inl (some a3))), (4, .inl x4)]) (st' := [.inr (.inl (some a3)), .inl v128, .inl v127, .inl v126, .inl v125, .inr (.inl (some a1))]) rfl ?_
    refine s_L hE (st := []) (fun o ho => j_callSW (As := [.inr (.inl (some a1)), .inl v125, .inl v126, .inl v127, .inl v128, .inr (.inl (some a3))]) (st := []) C 592 rfl mf_Lw_list ml_L_150 rfl (by decide) (by decide) (Nat.le_refl _) rfl (cLw_list (CX_tr C) σ M n (some a1) v125 v126 v127 v128 (some a3) o ho)) (fun v129 M130 n131 _ => ?_)
    refine s_blk C 593 6 [0, 1, 2, 3, 4, 5] (pc' := 1006) (lv' := [(0, .inr (.inl (some b))), (1, .inr (.inl (some a1))), (2, .inr (.inl (some (gM G)))), (3, .inr (.inl (some a3))), (4, .inl x4), (5, .inl v129)]) (st' := [.inl (x4 + 1), .inr (.inl (some b)), .inr (.inl (some (gM G)))]) rfl ?_
    refine s_sld C hX 599 rfl (fun v132 => ?_)
    refine s_blk C 600 4 [0, 1, 2, 3, 4, 5] (pc' := 1012) (lv' := [(0, .inr (.inl (some b))), (1, .inr (.inl (some a1))), (2, .inr (.inl (some (gM G)))), (3, .inr (.inl (some a3))), (4, .inl x4), (5, .inl v129)]) (st' := [.inl (x4 + 2), .inr (.inl (some b)), .inl v132, .inr (.inl (some (gM G)))]) rfl ?_
    refine s_sld C hX 604 rfl (fun v133 => ?_)
    refine s_blk C 605 4 [0, 1, 2, 3, 4, 5] (pc' := 1018) (lv' := [(0, .inr (.inl (some b))), (1, .inr (.inl (some a1))), (2, .inr (.inl (some (gM G)))), (3, .inr (.inl (some a3))), (4, .inl x4), (5, .inl v129)]) (st' := [.inl (x4 + 3), .inr (.inl (some b)), .inl v133, .inl v132, .inr (.inl (some (gM G)))]) rfl ?_
    refine s_sld C hX 609 rfl (fun v134 => ?_)
    refine s_blk C 610 4 [0, 1, 2, 3, 4, 5] (pc' := 1024) (lv' := [(0, .inr (.inl (some b))), (1, .inr (.inl (some a1))), (2, .inr (.inl (some (gM G)))), (3, .inr (.inl (some a3))), (4, .inl x4), (5, .inl v129)]) (st' := [.inl (x4 + 4), .inr (.inl (some b)), .inl v134, .inl v133, .inl v132, .inr (.inl (some (gM G)))]) rfl ?_
    refine s_sld C hX 614 rfl (fun v135 => ?_)
    refine s_SI hE (st := []) (fun o ho => j_callV (As := [.inl v132, .inl v133, .inl v134, .inl v135]) (st := []) (b := gM G) C 615 rfl mf_Md_list ml_L_152 rfl (recv_M hG C) (by decide) (by decide) (Nat.le_refl _) rfl (cMd_list (CX_tr C) hG σ M130 n131 v132 v133 v134 v135 o ho)) (fun v136 σ137 => ?_)
    refine s_blk C 616 2 [0, 1, 2, 3, 4, 5, 6] (pc' := 1031) (lv' := [(0, .inr (.inl (some b))), (1, .inr (.inl (some a1))), (2, .inr (.inl (some (gM G)))), (3, .inr (.inl (some a3))), (4, .inl x4), (5, .inl v129), (6, .inl v136)]) (st' := [.inr (.inl (some (gM G)))]) rfl ?_
    refine s_RI hE (st := []) (fun o ho => j_callV (As := []) (st := []) (b := gM G) C 618 rfl mf_Md_thrown ml_L_112 rfl (recv_M hG C) (by decide) (by decide) (Nat.le_refl _) rfl (cMd_thrown (CX_tr C) hG σ137 M130 n131 o ho)) (fun v138 => ?_)
    refine s_blk C 619 1 [0, 1, 2, 3, 4, 5, 6] (pc' := 1036) (lv' := [(0, .inr (.inl (some b))), (1, .inr (.inl (some a1))), (2, .inr (.inl (some (gM G)))), (3, .inr (.inl (some a3))), (4, .inl x4), (5, .inl v129), (6, .inl v136)]) (st' := [.inl v129, .inl v138]) rfl ?_
    refine s_iceq C 620 rfl (fun _ => ?_) (fun _ => ?_)
    · refine s_blk C 623 1 [0, 1, 2, 3, 4, 6] (pc' := 1043) (lv' := [(0, .inr (.inl (some b))), (1, .inr (.inl (some a1))), (2, .inr (.inl (some (gM G)))), (3, .inr (.inl (some a3))), (4, .inl x4), (6, .inl v136)]) (st' := [.inl v129]) rfl ?_
      refine s_ine C 624 rfl (fun _ => ?_) (fun _ => ?_)
      · refine s_blk C 625 2 [0, 1, 2, 3, 4, 6] (pc' := 1048) (lv' := [(0, .inr (.inl (some b))), (1, .inr (.inl (some a1))), (2, .inr (.inl (some (gM G)))), (3, .inr (.inl (some a3))), (4, .inl x4), (6, .inl v136)]) (st' := [.inl 0, .inr (.inl (some a3))]) rfl ?_
        refine s_ldJ C 627 rfl (fun j139 => ?_)
        refine s_blk C 628 2 [0, 1, 2, 3, 4] (pc' := 1052) (lv' := [(0, .inr (.inl (some b))), (1, .inr (.inl (some a1))), (2, .inr (.inl (some (gM G)))), (3, .inr (.inl (some a3))), (4, .inl x4)]) (st' := [.inr (.inr ((v136).toInt64)), .inr (.inr j139)]) rfl ?_
        refine s_lcmp C 630 rfl ?_
        refine s_ieq C 631 rfl (fun _ => ?_) (fun _ => ?_)
        · exact wLw_law_j1058 hG C hX hE hend a1 a3 k23 H23 _ _ _ _
        refine s_blk C 632 1 [] (pc' := 1057) (lv' := []) (st' := [.inl 0]) rfl ?_
        exact s_none
      refine s_blk C 0 0 [0, 1, 2, 3, 4] (pc' := 1058) (lv' := [(0, .inr (.inl (some b))), (1, .inr (.inl (some a1))), (2, .inr (.inl (some (gM G)))), (3, .inr (.inl (some a3))), (4, .inl x4)]) (st' := []) rfl ?_
      exact wLw_law_j1058 hG C hX hE hend a1 a3 k23 H23 _ _ _ _
    refine s_blk C 621 1 [] (pc' := 1040) (lv' := []) (st' := [.inl 0]) rfl ?_
    exact s_none
  · obtain rfl : (1022 : Int) = off := Option.some.inj hj
    refine ⟨1061, by decide, ?_⟩
    dsimp only [tsl]
    refine s_blk C 635 5 [0, 1, 2, 3, 4] (pc' := 1067) (lv' := [(0, .inr (.inl (some b))), (1, .inr (.inl (some a1))), (2, .inr (.inl (some (gM G)))), (3, .inr (.inl (some a3))), (4, .inl x4)]) (st' := [.inl (x4 + 1), .inr (.inl (some b)), .inr (.inl (some a1))]) rfl ?_
    refine s_sld C hX 640 rfl (fun v140 => ?_)
    refine s_blk C 641 4 [0, 1, 2, 3, 4] (pc' := 1073) (lv' := [(0, .inr (.inl (some b))), (1, .inr (.inl (some a1))), (2, .inr (.inl (some (gM G)))), (3, .inr (.inl (some a3))), (4, .inl x4)]) (st' := [.inl (x4 + 2), .inr (.inl (some b)), .inl v140, .inr (.inl (some a1))]) rfl ?_
    refine s_sld C hX 645 rfl (fun v141 => ?_)
    refine s_blk C 646 4 [0, 1, 2, 3, 4] (pc' := 1079) (lv' := [(0, .inr (.inl (some b))), (1, .inr (.inl (some a1))), (2, .inr (.inl (some (gM G)))), (3, .inr (.inl (some a3))), (4, .inl x4)]) (st' := [.inl (x4 + 3), .inr (.inl (some b)), .inl v141, .inl v140, .inr (.inl (some a1))]) rfl ?_
    refine s_sld C hX 650 rfl (fun v142 => ?_)
    refine s_blk C 651 1 [0, 1, 2, 3, 4] (pc' := 1081) (lv' := [(0, .inr (.inl (some b))), (1, .inr (.inl (some a1))), (2, .inr (.inl (some (gM G)))), (3, .inr (.inl (some a3))), (4, .inl x4)]) (st' := [.inr (.inl (some a3)), .inl v142, .inl v141, .inl v140, .inr (.inl (some a1))]) rfl ?_
    refine s_L hE (st := []) (fun o ho => j_callSW (As := [.inr (.inl (some a1)), .inl v140, .inl v141, .inl v142, .inr (.inl (some a3))]) (st := []) C 652 rfl mf_Lw_version ml_L_153 rfl (by decide) (by decide) (Nat.le_refl _) rfl (cLw_version (CX_tr C) σ M n (some a1) v140 v141 v142 (some a3) o ho)) (fun v143 M144 n145 _ => ?_)
    refine s_blk C 653 6 [0, 1, 2, 3, 4, 5] (pc' := 1092) (lv' := [(0, .inr (.inl (some b))), (1, .inr (.inl (some a1))), (2, .inr (.inl (some (gM G)))), (3, .inr (.inl (some a3))), (4, .inl x4), (5, .inl v143)]) (st' := [.inl (x4 + 1), .inr (.inl (some b)), .inr (.inl (some (gM G)))]) rfl ?_
    refine s_sld C hX 659 rfl (fun v146 => ?_)
    refine s_blk C 660 4 [0, 1, 2, 3, 4, 5] (pc' := 1098) (lv' := [(0, .inr (.inl (some b))), (1, .inr (.inl (some a1))), (2, .inr (.inl (some (gM G)))), (3, .inr (.inl (some a3))), (4, .inl x4), (5, .inl v143)]) (st' := [.inl (x4 + 2), .inr (.inl (some b)), .inl v146, .inr (.inl (some (gM G)))]) rfl ?_
    refine s_sld C hX 664 rfl (fun v147 => ?_)
    refine s_blk C 665 4 [0, 1, 2, 3, 4, 5] (pc' := 1104) (lv' := [(0, .inr (.inl (some b))), (1, .inr (.inl (some a1))), (2, .inr (.inl (some (gM G)))), (3, .inr (.inl (some a3))), (4, .inl x4), (5, .inl v143)]) (st' := [.inl (x4 + 3), .inr (.inl (some b)), .inl v147, .inl v146, .inr (.inl (some (gM G)))]) rfl ?_
    refine s_sld C hX 669 rfl (fun v148 => ?_)
    refine s_SI hE (st := []) (fun o ho => j_callV (As := [.inl v146, .inl v147, .inl v148]) (st := []) (b := gM G) C 670 rfl mf_Md_version ml_L_155 rfl (recv_M hG C) (by decide) (by decide) (Nat.le_refl _) rfl (cMd_version (CX_tr C) hG σ M144 n145 v146 v147 v148 o ho)) (fun v149 σ150 => ?_)
    refine s_blk C 671 2 [0, 1, 2, 3, 4, 5, 6] (pc' := 1111) (lv' := [(0, .inr (.inl (some b))), (1, .inr (.inl (some a1))), (2, .inr (.inl (some (gM G)))), (3, .inr (.inl (some a3))), (4, .inl x4), (5, .inl v143), (6, .inl v149)]) (st' := [.inr (.inl (some (gM G)))]) rfl ?_
    refine s_RI hE (st := []) (fun o ho => j_callV (As := []) (st := []) (b := gM G) C 673 rfl mf_Md_thrown ml_L_112 rfl (recv_M hG C) (by decide) (by decide) (Nat.le_refl _) rfl (cMd_thrown (CX_tr C) hG σ150 M144 n145 o ho)) (fun v151 => ?_)
    refine s_blk C 674 1 [0, 1, 2, 3, 4, 5, 6] (pc' := 1116) (lv' := [(0, .inr (.inl (some b))), (1, .inr (.inl (some a1))), (2, .inr (.inl (some (gM G)))), (3, .inr (.inl (some a3))), (4, .inl x4), (5, .inl v143), (6, .inl v149)]) (st' := [.inl v143, .inl v151]) rfl ?_
    refine s_iceq C 675 rfl (fun _ => ?_) (fun _ => ?_)
    · refine s_blk C 678 1 [0, 1, 2, 3, 4, 6] (pc' := 1123) (lv' := [(0, .inr (.inl (some b))), (1, .inr (.inl (some a1))), (2, .inr (.inl (some (gM G)))), (3, .inr (.inl (some a3))), (4, .inl x4), (6, .inl v149)]) (st' := [.inl v143]) rfl ?_
      refine s_ine C 679 rfl (fun _ => ?_) (fun _ => ?_)
      · refine s_blk C 680 2 [0, 1, 2, 3, 4, 6] (pc' := 1128) (lv' := [(0, .inr (.inl (some b))), (1, .inr (.inl (some a1))), (2, .inr (.inl (some (gM G)))), (3, .inr (.inl (some a3))), (4, .inl x4), (6, .inl v149)]) (st' := [.inl 0, .inr (.inl (some a3))]) rfl ?_
        refine s_ldJ C 682 rfl (fun j152 => ?_)
        refine s_blk C 683 2 [0, 1, 2, 3, 4] (pc' := 1132) (lv' := [(0, .inr (.inl (some b))), (1, .inr (.inl (some a1))), (2, .inr (.inl (some (gM G)))), (3, .inr (.inl (some a3))), (4, .inl x4)]) (st' := [.inr (.inr ((v149).toInt64)), .inr (.inr j152)]) rfl ?_
        refine s_lcmp C 685 rfl ?_
        refine s_ieq C 686 rfl (fun _ => ?_) (fun _ => ?_)
        · exact wLw_law_j1138 hG C hX hE hend a1 a3 k23 H23 _ _ _ _
        refine s_blk C 687 1 [] (pc' := 1137) (lv' := []) (st' := [.inl 0]) rfl ?_
        exact s_none
      refine s_blk C 0 0 [0, 1, 2, 3, 4] (pc' := 1138) (lv' := [(0, .inr (.inl (some b))), (1, .inr (.inl (some a1))), (2, .inr (.inl (some (gM G)))), (3, .inr (.inl (some a3))), (4, .inl x4)]) (st' := []) rfl ?_
      exact wLw_law_j1138 hG C hX hE hend a1 a3 k23 H23 _ _ _ _
    refine s_blk C 676 1 [] (pc' := 1120) (lv' := []) (st' := [.inl 0]) rfl ?_
    exact s_none
  · obtain rfl : (1102 : Int) = off := Option.some.inj hj
    refine ⟨1141, by decide, ?_⟩
    dsimp only [tsl]
    refine s_blk C 690 5 [0, 1, 2, 3, 4] (pc' := 1147) (lv' := [(0, .inr (.inl (some b))), (1, .inr (.inl (some a1))), (2, .inr (.inl (some (gM G)))), (3, .inr (.inl (some a3))), (4, .inl x4)]) (st' := [.inl (x4 + 1), .inr (.inl (some b)), .inr (.inl (some a1))]) rfl ?_
    refine s_sld C hX 695 rfl (fun v153 => ?_)
    refine s_blk C 696 4 [0, 1, 2, 3, 4] (pc' := 1153) (lv' := [(0, .inr (.inl (some b))), (1, .inr (.inl (some a1))), (2, .inr (.inl (some (gM G)))), (3, .inr (.inl (some a3))), (4, .inl x4)]) (st' := [.inl (x4 + 2), .inr (.inl (some b)), .inl v153, .inr (.inl (some a1))]) rfl ?_
    refine s_sld C hX 700 rfl (fun v154 => ?_)
    refine s_blk C 701 4 [0, 1, 2, 3, 4] (pc' := 1159) (lv' := [(0, .inr (.inl (some b))), (1, .inr (.inl (some a1))), (2, .inr (.inl (some (gM G)))), (3, .inr (.inl (some a3))), (4, .inl x4)]) (st' := [.inl (x4 + 3), .inr (.inl (some b)), .inl v154, .inl v153, .inr (.inl (some a1))]) rfl ?_
    refine s_sld C hX 705 rfl (fun v155 => ?_)
    refine s_blk C 706 4 [0, 1, 2, 3, 4] (pc' := 1165) (lv' := [(0, .inr (.inl (some b))), (1, .inr (.inl (some a1))), (2, .inr (.inl (some (gM G)))), (3, .inr (.inl (some a3))), (4, .inl x4)]) (st' := [.inl (x4 + 4), .inr (.inl (some b)), .inl v155, .inl v154, .inl v153, .inr (.inl (some a1))]) rfl ?_
    refine s_sld C hX 710 rfl (fun v156 => ?_)
    refine s_blk C 711 1 [0, 1, 2, 3, 4] (pc' := 1167) (lv' := [(0, .inr (.inl (some b))), (1, .inr (.inl (some a1))), (2, .inr (.inl (some (gM G)))), (3, .inr (.inl (some a3))), (4, .inl x4)]) (st' := [.inr (.inl (some a3)), .inl v156, .inl v155, .inl v154, .inl v153, .inr (.inl (some a1))]) rfl ?_
    refine s_L hE (st := []) (fun o ho => j_callSW (As := [.inr (.inl (some a1)), .inl v153, .inl v154, .inl v155, .inl v156, .inr (.inl (some a3))]) (st := []) C 712 rfl mf_Lw_about ml_L_156 rfl (by decide) (by decide) (Nat.le_refl _) rfl (cLw_about (CX_tr C) σ M n (some a1) v153 v154 v155 v156 (some a3) o ho)) (fun v157 M158 n159 _ => ?_)
    refine s_blk C 713 6 [0, 1, 2, 3, 4, 5] (pc' := 1178) (lv' := [(0, .inr (.inl (some b))), (1, .inr (.inl (some a1))), (2, .inr (.inl (some (gM G)))), (3, .inr (.inl (some a3))), (4, .inl x4), (5, .inl v157)]) (st' := [.inl (x4 + 1), .inr (.inl (some b)), .inr (.inl (some (gM G)))]) rfl ?_
    refine s_sld C hX 719 rfl (fun v160 => ?_)
    refine s_blk C 720 4 [0, 1, 2, 3, 4, 5] (pc' := 1184) (lv' := [(0, .inr (.inl (some b))), (1, .inr (.inl (some a1))), (2, .inr (.inl (some (gM G)))), (3, .inr (.inl (some a3))), (4, .inl x4), (5, .inl v157)]) (st' := [.inl (x4 + 2), .inr (.inl (some b)), .inl v160, .inr (.inl (some (gM G)))]) rfl ?_
    refine s_sld C hX 724 rfl (fun v161 => ?_)
    refine s_blk C 725 4 [0, 1, 2, 3, 4, 5] (pc' := 1190) (lv' := [(0, .inr (.inl (some b))), (1, .inr (.inl (some a1))), (2, .inr (.inl (some (gM G)))), (3, .inr (.inl (some a3))), (4, .inl x4), (5, .inl v157)]) (st' := [.inl (x4 + 3), .inr (.inl (some b)), .inl v161, .inl v160, .inr (.inl (some (gM G)))]) rfl ?_
    refine s_sld C hX 729 rfl (fun v162 => ?_)
    refine s_blk C 730 4 [0, 1, 2, 3, 4, 5] (pc' := 1196) (lv' := [(0, .inr (.inl (some b))), (1, .inr (.inl (some a1))), (2, .inr (.inl (some (gM G)))), (3, .inr (.inl (some a3))), (4, .inl x4), (5, .inl v157)]) (st' := [.inl (x4 + 4), .inr (.inl (some b)), .inl v162, .inl v161, .inl v160, .inr (.inl (some (gM G)))]) rfl ?_
    refine s_sld C hX 734 rfl (fun v163 => ?_)
    refine s_SI hE (st := []) (fun o ho => j_callV (As := [.inl v160, .inl v161, .inl v162, .inl v163]) (st := []) (b := gM G) C 735 rfl mf_Md_about ml_L_158 rfl (recv_M hG C) (by decide) (by decide) (Nat.le_refl _) rfl (cMd_about (CX_tr C) hG σ M158 n159 v160 v161 v162 v163 o ho)) (fun v164 σ165 => ?_)
    refine s_blk C 736 2 [0, 1, 2, 3, 4, 5, 6] (pc' := 1203) (lv' := [(0, .inr (.inl (some b))), (1, .inr (.inl (some a1))), (2, .inr (.inl (some (gM G)))), (3, .inr (.inl (some a3))), (4, .inl x4), (5, .inl v157), (6, .inl v164)]) (st' := [.inr (.inl (some (gM G)))]) rfl ?_
    refine s_RI hE (st := []) (fun o ho => j_callV (As := []) (st := []) (b := gM G) C 738 rfl mf_Md_thrown ml_L_112 rfl (recv_M hG C) (by decide) (by decide) (Nat.le_refl _) rfl (cMd_thrown (CX_tr C) hG σ165 M158 n159 o ho)) (fun v166 => ?_)
    refine s_blk C 739 1 [0, 1, 2, 3, 4, 5, 6] (pc' := 1208) (lv' := [(0, .inr (.inl (some b))), (1, .inr (.inl (some a1))), (2, .inr (.inl (some (gM G)))), (3, .inr (.inl (some a3))), (4, .inl x4), (5, .inl v157), (6, .inl v164)]) (st' := [.inl v157, .inl v166]) rfl ?_
    refine s_iceq C 740 rfl (fun _ => ?_) (fun _ => ?_)
    · refine s_blk C 743 1 [0, 1, 2, 3, 4, 6] (pc' := 1215) (lv' := [(0, .inr (.inl (some b))), (1, .inr (.inl (some a1))), (2, .inr (.inl (some (gM G)))), (3, .inr (.inl (some a3))), (4, .inl x4), (6, .inl v164)]) (st' := [.inl v157]) rfl ?_
      refine s_ine C 744 rfl (fun _ => ?_) (fun _ => ?_)
      · refine s_blk C 745 2 [0, 1, 2, 3, 4, 6] (pc' := 1220) (lv' := [(0, .inr (.inl (some b))), (1, .inr (.inl (some a1))), (2, .inr (.inl (some (gM G)))), (3, .inr (.inl (some a3))), (4, .inl x4), (6, .inl v164)]) (st' := [.inl 0, .inr (.inl (some a3))]) rfl ?_
        refine s_ldJ C 747 rfl (fun j167 => ?_)
        refine s_blk C 748 2 [0, 1, 2, 3, 4] (pc' := 1224) (lv' := [(0, .inr (.inl (some b))), (1, .inr (.inl (some a1))), (2, .inr (.inl (some (gM G)))), (3, .inr (.inl (some a3))), (4, .inl x4)]) (st' := [.inr (.inr ((v164).toInt64)), .inr (.inr j167)]) rfl ?_
        refine s_lcmp C 750 rfl ?_
        refine s_ieq C 751 rfl (fun _ => ?_) (fun _ => ?_)
        · exact wLw_law_j1230 hG C hX hE hend a1 a3 k23 H23 _ _ _ _
        refine s_blk C 752 1 [] (pc' := 1229) (lv' := []) (st' := [.inl 0]) rfl ?_
        exact s_none
      refine s_blk C 0 0 [0, 1, 2, 3, 4] (pc' := 1230) (lv' := [(0, .inr (.inl (some b))), (1, .inr (.inl (some a1))), (2, .inr (.inl (some (gM G)))), (3, .inr (.inl (some a3))), (4, .inl x4)]) (st' := []) rfl ?_
      exact wLw_law_j1230 hG C hX hE hend a1 a3 k23 H23 _ _ _ _
    refine s_blk C 741 1 [] (pc' := 1212) (lv' := []) (st' := [.inl 0]) rfl ?_
    exact s_none
  · obtain rfl : (1194 : Int) = off := Option.some.inj hj
    refine ⟨1233, by decide, ?_⟩
    dsimp only [tsl]
    refine s_blk C 755 5 [0, 1, 2, 3, 4] (pc' := 1239) (lv' := [(0, .inr (.inl (some b))), (1, .inr (.inl (some a1))), (2, .inr (.inl (some (gM G)))), (3, .inr (.inl (some a3))), (4, .inl x4)]) (st' := [.inl (x4 + 1), .inr (.inl (some b)), .inr (.inl (some a1))]) rfl ?_
    refine s_sld C hX 760 rfl (fun v168 => ?_)
    refine s_blk C 761 4 [0, 1, 2, 3, 4] (pc' := 1245) (lv' := [(0, .inr (.inl (some b))), (1, .inr (.inl (some a1))), (2, .inr (.inl (some (gM G)))), (3, .inr (.inl (some a3))), (4, .inl x4)]) (st' := [.inl (x4 + 2), .inr (.inl (some b)), .inl v168, .inr (.inl (some a1))]) rfl ?_
    refine s_sld C hX 765 rfl (fun v169 => ?_)
    refine s_blk C 766 4 [0, 1, 2, 3, 4] (pc' := 1251) (lv' := [(0, .inr (.inl (some b))), (1, .inr (.inl (some a1))), (2, .inr (.inl (some (gM G)))), (3, .inr (.inl (some a3))), (4, .inl x4)]) (st' := [.inl (x4 + 3), .inr (.inl (some b)), .inl v169, .inl v168, .inr (.inl (some a1))]) rfl ?_
    refine s_sld C hX 770 rfl (fun v170 => ?_)
    refine s_blk C 771 4 [0, 1, 2, 3, 4] (pc' := 1257) (lv' := [(0, .inr (.inl (some b))), (1, .inr (.inl (some a1))), (2, .inr (.inl (some (gM G)))), (3, .inr (.inl (some a3))), (4, .inl x4)]) (st' := [.inl (x4 + 4), .inr (.inl (some b)), .inl v170, .inl v169, .inl v168, .inr (.inl (some a1))]) rfl ?_
    refine s_sld C hX 775 rfl (fun v171 => ?_)
    refine s_blk C 776 1 [0, 1, 2, 3, 4] (pc' := 1259) (lv' := [(0, .inr (.inl (some b))), (1, .inr (.inl (some a1))), (2, .inr (.inl (some (gM G)))), (3, .inr (.inl (some a3))), (4, .inl x4)]) (st' := [.inr (.inl (some a3)), .inl v171, .inl v170, .inl v169, .inl v168, .inr (.inl (some a1))]) rfl ?_
    refine s_L hE (st := []) (fun o ho => j_callSW (As := [.inr (.inl (some a1)), .inl v168, .inl v169, .inl v170, .inl v171, .inr (.inl (some a3))]) (st := []) C 777 rfl mf_Lw_part ml_L_159 rfl (by decide) (by decide) (Nat.le_refl _) rfl (cLw_part (CX_tr C) σ M n (some a1) v168 v169 v170 v171 (some a3) o ho)) (fun v172 M173 n174 _ => ?_)
    refine s_blk C 778 6 [0, 1, 2, 3, 4, 5] (pc' := 1270) (lv' := [(0, .inr (.inl (some b))), (1, .inr (.inl (some a1))), (2, .inr (.inl (some (gM G)))), (3, .inr (.inl (some a3))), (4, .inl x4), (5, .inl v172)]) (st' := [.inl (x4 + 1), .inr (.inl (some b)), .inr (.inl (some (gM G)))]) rfl ?_
    refine s_sld C hX 784 rfl (fun v175 => ?_)
    refine s_blk C 785 4 [0, 1, 2, 3, 4, 5] (pc' := 1276) (lv' := [(0, .inr (.inl (some b))), (1, .inr (.inl (some a1))), (2, .inr (.inl (some (gM G)))), (3, .inr (.inl (some a3))), (4, .inl x4), (5, .inl v172)]) (st' := [.inl (x4 + 2), .inr (.inl (some b)), .inl v175, .inr (.inl (some (gM G)))]) rfl ?_
    refine s_sld C hX 789 rfl (fun v176 => ?_)
    refine s_blk C 790 4 [0, 1, 2, 3, 4, 5] (pc' := 1282) (lv' := [(0, .inr (.inl (some b))), (1, .inr (.inl (some a1))), (2, .inr (.inl (some (gM G)))), (3, .inr (.inl (some a3))), (4, .inl x4), (5, .inl v172)]) (st' := [.inl (x4 + 3), .inr (.inl (some b)), .inl v176, .inl v175, .inr (.inl (some (gM G)))]) rfl ?_
    refine s_sld C hX 794 rfl (fun v177 => ?_)
    refine s_blk C 795 4 [0, 1, 2, 3, 4, 5] (pc' := 1288) (lv' := [(0, .inr (.inl (some b))), (1, .inr (.inl (some a1))), (2, .inr (.inl (some (gM G)))), (3, .inr (.inl (some a3))), (4, .inl x4), (5, .inl v172)]) (st' := [.inl (x4 + 4), .inr (.inl (some b)), .inl v177, .inl v176, .inl v175, .inr (.inl (some (gM G)))]) rfl ?_
    refine s_sld C hX 799 rfl (fun v178 => ?_)
    refine s_SI hE (st := []) (fun o ho => j_callV (As := [.inl v175, .inl v176, .inl v177, .inl v178]) (st := []) (b := gM G) C 800 rfl mf_Md_part ml_L_161 rfl (recv_M hG C) (by decide) (by decide) (Nat.le_refl _) rfl (cMd_part (CX_tr C) hG σ M173 n174 v175 v176 v177 v178 o ho)) (fun v179 σ180 => ?_)
    refine s_blk C 801 2 [0, 1, 2, 3, 4, 5, 6] (pc' := 1295) (lv' := [(0, .inr (.inl (some b))), (1, .inr (.inl (some a1))), (2, .inr (.inl (some (gM G)))), (3, .inr (.inl (some a3))), (4, .inl x4), (5, .inl v172), (6, .inl v179)]) (st' := [.inr (.inl (some (gM G)))]) rfl ?_
    refine s_RI hE (st := []) (fun o ho => j_callV (As := []) (st := []) (b := gM G) C 803 rfl mf_Md_thrown ml_L_112 rfl (recv_M hG C) (by decide) (by decide) (Nat.le_refl _) rfl (cMd_thrown (CX_tr C) hG σ180 M173 n174 o ho)) (fun v181 => ?_)
    refine s_blk C 804 1 [0, 1, 2, 3, 4, 5, 6] (pc' := 1300) (lv' := [(0, .inr (.inl (some b))), (1, .inr (.inl (some a1))), (2, .inr (.inl (some (gM G)))), (3, .inr (.inl (some a3))), (4, .inl x4), (5, .inl v172), (6, .inl v179)]) (st' := [.inl v172, .inl v181]) rfl ?_
    refine s_iceq C 805 rfl (fun _ => ?_) (fun _ => ?_)
    · refine s_blk C 808 1 [0, 1, 2, 3, 4, 6] (pc' := 1307) (lv' := [(0, .inr (.inl (some b))), (1, .inr (.inl (some a1))), (2, .inr (.inl (some (gM G)))), (3, .inr (.inl (some a3))), (4, .inl x4), (6, .inl v179)]) (st' := [.inl v172]) rfl ?_
      refine s_ine C 809 rfl (fun _ => ?_) (fun _ => ?_)
      · refine s_blk C 810 2 [0, 1, 2, 3, 4, 6] (pc' := 1312) (lv' := [(0, .inr (.inl (some b))), (1, .inr (.inl (some a1))), (2, .inr (.inl (some (gM G)))), (3, .inr (.inl (some a3))), (4, .inl x4), (6, .inl v179)]) (st' := [.inl 0, .inr (.inl (some a3))]) rfl ?_
        refine s_ldJ C 812 rfl (fun j182 => ?_)
        refine s_blk C 813 2 [0, 1, 2, 3, 4] (pc' := 1316) (lv' := [(0, .inr (.inl (some b))), (1, .inr (.inl (some a1))), (2, .inr (.inl (some (gM G)))), (3, .inr (.inl (some a3))), (4, .inl x4)]) (st' := [.inr (.inr ((v179).toInt64)), .inr (.inr j182)]) rfl ?_
        refine s_lcmp C 815 rfl ?_
        refine s_ieq C 816 rfl (fun _ => ?_) (fun _ => ?_)
        · exact wLw_law_j1322 hG C hX hE hend a1 a3 k23 H23 _ _ _ _
        refine s_blk C 817 1 [] (pc' := 1321) (lv' := []) (st' := [.inl 0]) rfl ?_
        exact s_none
      refine s_blk C 0 0 [0, 1, 2, 3, 4] (pc' := 1322) (lv' := [(0, .inr (.inl (some b))), (1, .inr (.inl (some a1))), (2, .inr (.inl (some (gM G)))), (3, .inr (.inl (some a3))), (4, .inl x4)]) (st' := []) rfl ?_
      exact wLw_law_j1322 hG C hX hE hend a1 a3 k23 H23 _ _ _ _
    refine s_blk C 806 1 [] (pc' := 1304) (lv' := []) (st' := [.inl 0]) rfl ?_
    exact s_none
  · obtain rfl : (1286 : Int) = off := Option.some.inj hj
    refine ⟨1325, by decide, ?_⟩
    dsimp only [tsl]
    refine s_blk C 820 5 [0, 1, 2, 3, 4] (pc' := 1331) (lv' := [(0, .inr (.inl (some b))), (1, .inr (.inl (some a1))), (2, .inr (.inl (some (gM G)))), (3, .inr (.inl (some a3))), (4, .inl x4)]) (st' := [.inl (x4 + 1), .inr (.inl (some b)), .inr (.inl (some a1))]) rfl ?_
    refine s_sld C hX 825 rfl (fun v183 => ?_)
    refine s_blk C 826 4 [0, 1, 2, 3, 4] (pc' := 1337) (lv' := [(0, .inr (.inl (some b))), (1, .inr (.inl (some a1))), (2, .inr (.inl (some (gM G)))), (3, .inr (.inl (some a3))), (4, .inl x4)]) (st' := [.inl (x4 + 2), .inr (.inl (some b)), .inl v183, .inr (.inl (some a1))]) rfl ?_
    refine s_sld C hX 830 rfl (fun v184 => ?_)
    refine s_blk C 831 4 [0, 1, 2, 3, 4] (pc' := 1343) (lv' := [(0, .inr (.inl (some b))), (1, .inr (.inl (some a1))), (2, .inr (.inl (some (gM G)))), (3, .inr (.inl (some a3))), (4, .inl x4)]) (st' := [.inl (x4 + 3), .inr (.inl (some b)), .inl v184, .inl v183, .inr (.inl (some a1))]) rfl ?_
    refine s_sld C hX 835 rfl (fun v185 => ?_)
    refine s_blk C 836 1 [0, 1, 2, 3, 4] (pc' := 1345) (lv' := [(0, .inr (.inl (some b))), (1, .inr (.inl (some a1))), (2, .inr (.inl (some (gM G)))), (3, .inr (.inl (some a3))), (4, .inl x4)]) (st' := [.inr (.inl (some a3)), .inl v185, .inl v184, .inl v183, .inr (.inl (some a1))]) rfl ?_
    refine s_L hE (st := []) (fun o ho => j_callSW (As := [.inr (.inl (some a1)), .inl v183, .inl v184, .inl v185, .inr (.inl (some a3))]) (st := []) C 837 rfl mf_Lw_partIs ml_L_162 rfl (by decide) (by decide) (Nat.le_refl _) rfl (cLw_partIs (CX_tr C) σ M n (some a1) v183 v184 v185 (some a3) o ho)) (fun v186 M187 n188 _ => ?_)
    refine s_blk C 838 6 [0, 1, 2, 3, 4, 5] (pc' := 1356) (lv' := [(0, .inr (.inl (some b))), (1, .inr (.inl (some a1))), (2, .inr (.inl (some (gM G)))), (3, .inr (.inl (some a3))), (4, .inl x4), (5, .inl v186)]) (st' := [.inl (x4 + 1), .inr (.inl (some b)), .inr (.inl (some (gM G)))]) rfl ?_
    refine s_sld C hX 844 rfl (fun v189 => ?_)
    refine s_blk C 845 4 [0, 1, 2, 3, 4, 5] (pc' := 1362) (lv' := [(0, .inr (.inl (some b))), (1, .inr (.inl (some a1))), (2, .inr (.inl (some (gM G)))), (3, .inr (.inl (some a3))), (4, .inl x4), (5, .inl v186)]) (st' := [.inl (x4 + 2), .inr (.inl (some b)), .inl v189, .inr (.inl (some (gM G)))]) rfl ?_
    refine s_sld C hX 849 rfl (fun v190 => ?_)
    refine s_blk C 850 4 [0, 1, 2, 3, 4, 5] (pc' := 1368) (lv' := [(0, .inr (.inl (some b))), (1, .inr (.inl (some a1))), (2, .inr (.inl (some (gM G)))), (3, .inr (.inl (some a3))), (4, .inl x4), (5, .inl v186)]) (st' := [.inl (x4 + 3), .inr (.inl (some b)), .inl v190, .inl v189, .inr (.inl (some (gM G)))]) rfl ?_
    refine s_sld C hX 854 rfl (fun v191 => ?_)
    refine s_SI hE (st := []) (fun o ho => j_callV (As := [.inl v189, .inl v190, .inl v191]) (st := []) (b := gM G) C 855 rfl mf_Md_partIs ml_L_164 rfl (recv_M hG C) (by decide) (by decide) (Nat.le_refl _) rfl (cMd_partIs (CX_tr C) hG σ M187 n188 v189 v190 v191 o ho)) (fun v192 σ193 => ?_)
    refine s_blk C 856 2 [0, 1, 2, 3, 4, 5, 6] (pc' := 1375) (lv' := [(0, .inr (.inl (some b))), (1, .inr (.inl (some a1))), (2, .inr (.inl (some (gM G)))), (3, .inr (.inl (some a3))), (4, .inl x4), (5, .inl v186), (6, .inl v192)]) (st' := [.inr (.inl (some (gM G)))]) rfl ?_
    refine s_RI hE (st := []) (fun o ho => j_callV (As := []) (st := []) (b := gM G) C 858 rfl mf_Md_thrown ml_L_112 rfl (recv_M hG C) (by decide) (by decide) (Nat.le_refl _) rfl (cMd_thrown (CX_tr C) hG σ193 M187 n188 o ho)) (fun v194 => ?_)
    refine s_blk C 859 1 [0, 1, 2, 3, 4, 5, 6] (pc' := 1380) (lv' := [(0, .inr (.inl (some b))), (1, .inr (.inl (some a1))), (2, .inr (.inl (some (gM G)))), (3, .inr (.inl (some a3))), (4, .inl x4), (5, .inl v186), (6, .inl v192)]) (st' := [.inl v186, .inl v194]) rfl ?_
    refine s_iceq C 860 rfl (fun _ => ?_) (fun _ => ?_)
    · refine s_blk C 863 1 [0, 1, 2, 3, 4, 6] (pc' := 1387) (lv' := [(0, .inr (.inl (some b))), (1, .inr (.inl (some a1))), (2, .inr (.inl (some (gM G)))), (3, .inr (.inl (some a3))), (4, .inl x4), (6, .inl v192)]) (st' := [.inl v186]) rfl ?_
      refine s_ine C 864 rfl (fun _ => ?_) (fun _ => ?_)
      · refine s_blk C 865 2 [0, 1, 2, 3, 4, 6] (pc' := 1392) (lv' := [(0, .inr (.inl (some b))), (1, .inr (.inl (some a1))), (2, .inr (.inl (some (gM G)))), (3, .inr (.inl (some a3))), (4, .inl x4), (6, .inl v192)]) (st' := [.inl 0, .inr (.inl (some a3))]) rfl ?_
        refine s_ldJ C 867 rfl (fun j195 => ?_)
        refine s_blk C 868 2 [0, 1, 2, 3, 4] (pc' := 1396) (lv' := [(0, .inr (.inl (some b))), (1, .inr (.inl (some a1))), (2, .inr (.inl (some (gM G)))), (3, .inr (.inl (some a3))), (4, .inl x4)]) (st' := [.inr (.inr ((v192).toInt64)), .inr (.inr j195)]) rfl ?_
        refine s_lcmp C 870 rfl ?_
        refine s_ieq C 871 rfl (fun _ => ?_) (fun _ => ?_)
        · exact wLw_law_j1402 hG C hX hE hend a1 a3 k23 H23 _ _ _ _
        refine s_blk C 872 1 [] (pc' := 1401) (lv' := []) (st' := [.inl 0]) rfl ?_
        exact s_none
      refine s_blk C 0 0 [0, 1, 2, 3, 4] (pc' := 1402) (lv' := [(0, .inr (.inl (some b))), (1, .inr (.inl (some a1))), (2, .inr (.inl (some (gM G)))), (3, .inr (.inl (some a3))), (4, .inl x4)]) (st' := []) rfl ?_
      exact wLw_law_j1402 hG C hX hE hend a1 a3 k23 H23 _ _ _ _
    refine s_blk C 861 1 [] (pc' := 1384) (lv' := []) (st' := [.inl 0]) rfl ?_
    exact s_none
  · obtain rfl : (1366 : Int) = off := Option.some.inj hj
    refine ⟨1405, by decide, ?_⟩
    dsimp only [tsl]
    refine s_blk C 875 5 [0, 1, 2, 3, 4] (pc' := 1411) (lv' := [(0, .inr (.inl (some b))), (1, .inr (.inl (some a1))), (2, .inr (.inl (some (gM G)))), (3, .inr (.inl (some a3))), (4, .inl x4)]) (st' := [.inl (x4 + 1), .inr (.inl (some b)), .inr (.inl (some a1))]) rfl ?_
    refine s_sld C hX 880 rfl (fun v196 => ?_)
    refine s_blk C 881 4 [0, 1, 2, 3, 4] (pc' := 1417) (lv' := [(0, .inr (.inl (some b))), (1, .inr (.inl (some a1))), (2, .inr (.inl (some (gM G)))), (3, .inr (.inl (some a3))), (4, .inl x4)]) (st' := [.inl (x4 + 2), .inr (.inl (some b)), .inl v196, .inr (.inl (some a1))]) rfl ?_
    refine s_sld C hX 885 rfl (fun v197 => ?_)
    refine s_blk C 886 4 [0, 1, 2, 3, 4] (pc' := 1423) (lv' := [(0, .inr (.inl (some b))), (1, .inr (.inl (some a1))), (2, .inr (.inl (some (gM G)))), (3, .inr (.inl (some a3))), (4, .inl x4)]) (st' := [.inl (x4 + 3), .inr (.inl (some b)), .inl v197, .inl v196, .inr (.inl (some a1))]) rfl ?_
    refine s_sld C hX 890 rfl (fun v198 => ?_)
    refine s_ieq C 891 rfl (fun _ => ?_) (fun _ => ?_)
    · refine s_blk C 894 1 [0, 1, 2, 3, 4] (pc' := 1432) (lv' := [(0, .inr (.inl (some b))), (1, .inr (.inl (some a1))), (2, .inr (.inl (some (gM G)))), (3, .inr (.inl (some a3))), (4, .inl x4)]) (st' := [.inl 0, .inl v197, .inl v196, .inr (.inl (some a1))]) rfl ?_
      exact wLw_law_j1432 hG C hX hE hend a1 a3 k23 H23 _ _ _ _ _ _ _
    refine s_blk C 892 2 [0, 1, 2, 3, 4] (pc' := 1432) (lv' := [(0, .inr (.inl (some b))), (1, .inr (.inl (some a1))), (2, .inr (.inl (some (gM G)))), (3, .inr (.inl (some a3))), (4, .inl x4)]) (st' := [.inl 1, .inl v197, .inl v196, .inr (.inl (some a1))]) rfl ?_
    exact wLw_law_j1432 hG C hX hE hend a1 a3 k23 H23 _ _ _ _ _ _ _
  · obtain rfl : (1462 : Int) = off := Option.some.inj hj
    refine ⟨1501, by decide, ?_⟩
    dsimp only [tsl]
    refine s_blk C 938 5 [0, 1, 2, 3, 4] (pc' := 1507) (lv' := [(0, .inr (.inl (some b))), (1, .inr (.inl (some a1))), (2, .inr (.inl (some (gM G)))), (3, .inr (.inl (some a3))), (4, .inl x4)]) (st' := [.inl (x4 + 1), .inr (.inl (some b)), .inr (.inl (some a1))]) rfl ?_
    refine s_sld C hX 943 rfl (fun v199 => ?_)
    refine s_blk C 944 4 [0, 1, 2, 3, 4] (pc' := 1513) (lv' := [(0, .inr (.inl (some b))), (1, .inr (.inl (some a1))), (2, .inr (.inl (some (gM G)))), (3, .inr (.inl (some a3))), (4, .inl x4)]) (st' := [.inl (x4 + 2), .inr (.inl (some b)), .inl v199, .inr (.inl (some a1))]) rfl ?_
    refine s_sld C hX 948 rfl (fun v200 => ?_)
    refine s_blk C 949 4 [0, 1, 2, 3, 4] (pc' := 1519) (lv' := [(0, .inr (.inl (some b))), (1, .inr (.inl (some a1))), (2, .inr (.inl (some (gM G)))), (3, .inr (.inl (some a3))), (4, .inl x4)]) (st' := [.inl (x4 + 3), .inr (.inl (some b)), .inl v200, .inl v199, .inr (.inl (some a1))]) rfl ?_
    refine s_sld C hX 953 rfl (fun v201 => ?_)
    refine s_blk C 954 1 [0, 1, 2, 3, 4] (pc' := 1521) (lv' := [(0, .inr (.inl (some b))), (1, .inr (.inl (some a1))), (2, .inr (.inl (some (gM G)))), (3, .inr (.inl (some a3))), (4, .inl x4)]) (st' := [.inr (.inl (some a3)), .inl v201, .inl v200, .inl v199, .inr (.inl (some a1))]) rfl ?_
    refine s_L hE (st := []) (fun o ho => j_callSW (As := [.inr (.inl (some a1)), .inl v199, .inl v200, .inl v201, .inr (.inl (some a3))]) (st := []) C 955 rfl mf_Lw_rot ml_L_169 rfl (by decide) (by decide) (Nat.le_refl _) rfl (cLw_rot (CX_tr C) σ M n (some a1) v199 v200 v201 (some a3) o ho)) (fun v202 M203 n204 _ => ?_)
    refine s_blk C 956 6 [0, 1, 2, 3, 4, 5] (pc' := 1532) (lv' := [(0, .inr (.inl (some b))), (1, .inr (.inl (some a1))), (2, .inr (.inl (some (gM G)))), (3, .inr (.inl (some a3))), (4, .inl x4), (5, .inl v202)]) (st' := [.inl (x4 + 1), .inr (.inl (some b)), .inr (.inl (some (gM G)))]) rfl ?_
    refine s_sld C hX 962 rfl (fun v205 => ?_)
    refine s_blk C 963 4 [0, 1, 2, 3, 4, 5] (pc' := 1538) (lv' := [(0, .inr (.inl (some b))), (1, .inr (.inl (some a1))), (2, .inr (.inl (some (gM G)))), (3, .inr (.inl (some a3))), (4, .inl x4), (5, .inl v202)]) (st' := [.inl (x4 + 2), .inr (.inl (some b)), .inl v205, .inr (.inl (some (gM G)))]) rfl ?_
    refine s_sld C hX 967 rfl (fun v206 => ?_)
    refine s_blk C 968 4 [0, 1, 2, 3, 4, 5] (pc' := 1544) (lv' := [(0, .inr (.inl (some b))), (1, .inr (.inl (some a1))), (2, .inr (.inl (some (gM G)))), (3, .inr (.inl (some a3))), (4, .inl x4), (5, .inl v202)]) (st' := [.inl (x4 + 3), .inr (.inl (some b)), .inl v206, .inl v205, .inr (.inl (some (gM G)))]) rfl ?_
    refine s_sld C hX 972 rfl (fun v207 => ?_)
    refine s_SI hE (st := []) (fun o ho => j_callV (As := [.inl v205, .inl v206, .inl v207]) (st := []) (b := gM G) C 973 rfl mf_Md_rot ml_L_171 rfl (recv_M hG C) (by decide) (by decide) (Nat.le_refl _) rfl (cMd_rot (CX_tr C) hG σ M203 n204 v205 v206 v207 o ho)) (fun v208 σ209 => ?_)
    refine s_blk C 974 2 [0, 1, 2, 3, 4, 5, 6] (pc' := 1551) (lv' := [(0, .inr (.inl (some b))), (1, .inr (.inl (some a1))), (2, .inr (.inl (some (gM G)))), (3, .inr (.inl (some a3))), (4, .inl x4), (5, .inl v202), (6, .inl v208)]) (st' := [.inr (.inl (some (gM G)))]) rfl ?_
    refine s_RI hE (st := []) (fun o ho => j_callV (As := []) (st := []) (b := gM G) C 976 rfl mf_Md_thrown ml_L_112 rfl (recv_M hG C) (by decide) (by decide) (Nat.le_refl _) rfl (cMd_thrown (CX_tr C) hG σ209 M203 n204 o ho)) (fun v210 => ?_)
    refine s_blk C 977 1 [0, 1, 2, 3, 4, 5, 6] (pc' := 1556) (lv' := [(0, .inr (.inl (some b))), (1, .inr (.inl (some a1))), (2, .inr (.inl (some (gM G)))), (3, .inr (.inl (some a3))), (4, .inl x4), (5, .inl v202), (6, .inl v208)]) (st' := [.inl v202, .inl v210]) rfl ?_
    refine s_iceq C 978 rfl (fun _ => ?_) (fun _ => ?_)
    · refine s_blk C 981 1 [0, 1, 2, 3, 4, 6] (pc' := 1563) (lv' := [(0, .inr (.inl (some b))), (1, .inr (.inl (some a1))), (2, .inr (.inl (some (gM G)))), (3, .inr (.inl (some a3))), (4, .inl x4), (6, .inl v208)]) (st' := [.inl v202]) rfl ?_
      refine s_ine C 982 rfl (fun _ => ?_) (fun _ => ?_)
      · refine s_blk C 983 2 [0, 1, 2, 3, 4, 6] (pc' := 1568) (lv' := [(0, .inr (.inl (some b))), (1, .inr (.inl (some a1))), (2, .inr (.inl (some (gM G)))), (3, .inr (.inl (some a3))), (4, .inl x4), (6, .inl v208)]) (st' := [.inl 0, .inr (.inl (some a3))]) rfl ?_
        refine s_ldJ C 985 rfl (fun j211 => ?_)
        refine s_blk C 986 1 [0, 1, 2, 3, 4] (pc' := 1571) (lv' := [(0, .inr (.inl (some b))), (1, .inr (.inl (some a1))), (2, .inr (.inl (some (gM G)))), (3, .inr (.inl (some a3))), (4, .inl x4)]) (st' := [.inl v208, .inr (.inr j211)]) rfl ?_
        refine s_ieq C 987 rfl (fun _ => ?_) (fun _ => ?_)
        · refine s_blk C 990 1 [0, 1, 2, 3, 4] (pc' := 1579) (lv' := [(0, .inr (.inl (some b))), (1, .inr (.inl (some a1))), (2, .inr (.inl (some (gM G)))), (3, .inr (.inl (some a3))), (4, .inl x4)]) (st' := [.inr (.inr (Int64.ofNat 0)), .inr (.inr j211)]) rfl ?_
          exact wLw_law_j1579 hG C hX hE hend a1 a3 k23 H23 _ _ _ _ _ _
        refine s_blk C 988 2 [0, 1, 2, 3, 4] (pc' := 1579) (lv' := [(0, .inr (.inl (some b))), (1, .inr (.inl (some a1))), (2, .inr (.inl (some (gM G)))), (3, .inr (.inl (some a3))), (4, .inl x4)]) (st' := [.inr (.inr (Int64.ofNat 1)), .inr (.inr j211)]) rfl ?_
        exact wLw_law_j1579 hG C hX hE hend a1 a3 k23 H23 _ _ _ _ _ _
      refine s_blk C 0 0 [0, 1, 2, 3, 4] (pc' := 1585) (lv' := [(0, .inr (.inl (some b))), (1, .inr (.inl (some a1))), (2, .inr (.inl (some (gM G)))), (3, .inr (.inl (some a3))), (4, .inl x4)]) (st' := []) rfl ?_
      exact wLw_law_j1585 hG C hX hE hend a1 a3 k23 H23 _ _ _ _
    refine s_blk C 979 1 [] (pc' := 1560) (lv' := []) (st' := [.inl 0]) rfl ?_
    exact s_none
  · obtain rfl : (1549 : Int) = off := Option.some.inj hj
    refine ⟨1588, by decide, ?_⟩
    dsimp only [tsl]
    refine s_blk C 996 5 [0, 1, 2, 3, 4] (pc' := 1594) (lv' := [(0, .inr (.inl (some b))), (1, .inr (.inl (some a1))), (2, .inr (.inl (some (gM G)))), (3, .inr (.inl (some a3))), (4, .inl x4)]) (st' := [.inl (x4 + 1), .inr (.inl (some b)), .inr (.inl (some a1))]) rfl ?_
    refine s_sld C hX 1001 rfl (fun v212 => ?_)
    refine s_blk C 1002 4 [0, 1, 2, 3, 4] (pc' := 1600) (lv' := [(0, .inr (.inl (some b))), (1, .inr (.inl (some a1))), (2, .inr (.inl (some (gM G)))), (3, .inr (.inl (some a3))), (4, .inl x4)]) (st' := [.inl (x4 + 2), .inr (.inl (some b)), .inl v212, .inr (.inl (some a1))]) rfl ?_
    refine s_sld C hX 1006 rfl (fun v213 => ?_)
    refine s_blk C 1007 1 [0, 1, 2, 3, 4] (pc' := 1602) (lv' := [(0, .inr (.inl (some b))), (1, .inr (.inl (some a1))), (2, .inr (.inl (some (gM G)))), (3, .inr (.inl (some a3))), (4, .inl x4)]) (st' := [.inr (.inl (some a3)), .inl v213, .inl v212, .inr (.inl (some a1))]) rfl ?_
    refine s_L hE (st := []) (fun o ho => j_callSW (As := [.inr (.inl (some a1)), .inl v212, .inl v213, .inr (.inl (some a3))]) (st := []) C 1008 rfl mf_Lw_mend ml_L_172 rfl (by decide) (by decide) (Nat.le_refl _) rfl (cLw_mend (CX_tr C) σ M n (some a1) v212 v213 (some a3) o ho)) (fun v214 M215 n216 _ => ?_)
    refine s_blk C 1009 6 [0, 1, 2, 3, 4, 5] (pc' := 1613) (lv' := [(0, .inr (.inl (some b))), (1, .inr (.inl (some a1))), (2, .inr (.inl (some (gM G)))), (3, .inr (.inl (some a3))), (4, .inl x4), (5, .inl v214)]) (st' := [.inl (x4 + 1), .inr (.inl (some b)), .inr (.inl (some (gM G)))]) rfl ?_
    refine s_sld C hX 1015 rfl (fun v217 => ?_)
    refine s_blk C 1016 4 [0, 1, 2, 3, 4, 5] (pc' := 1619) (lv' := [(0, .inr (.inl (some b))), (1, .inr (.inl (some a1))), (2, .inr (.inl (some (gM G)))), (3, .inr (.inl (some a3))), (4, .inl x4), (5, .inl v214)]) (st' := [.inl (x4 + 2), .inr (.inl (some b)), .inl v217, .inr (.inl (some (gM G)))]) rfl ?_
    refine s_sld C hX 1020 rfl (fun v218 => ?_)
    refine s_SI hE (st := []) (fun o ho => j_callV (As := [.inl v217, .inl v218]) (st := []) (b := gM G) C 1021 rfl mf_Md_mend ml_L_174 rfl (recv_M hG C) (by decide) (by decide) (Nat.le_refl _) rfl (cMd_mend (CX_tr C) hG σ M215 n216 v217 v218 o ho)) (fun v219 σ220 => ?_)
    refine s_blk C 1022 2 [0, 1, 2, 3, 4, 5, 6] (pc' := 1626) (lv' := [(0, .inr (.inl (some b))), (1, .inr (.inl (some a1))), (2, .inr (.inl (some (gM G)))), (3, .inr (.inl (some a3))), (4, .inl x4), (5, .inl v214), (6, .inl v219)]) (st' := [.inr (.inl (some (gM G)))]) rfl ?_
    refine s_RI hE (st := []) (fun o ho => j_callV (As := []) (st := []) (b := gM G) C 1024 rfl mf_Md_thrown ml_L_112 rfl (recv_M hG C) (by decide) (by decide) (Nat.le_refl _) rfl (cMd_thrown (CX_tr C) hG σ220 M215 n216 o ho)) (fun v221 => ?_)
    refine s_blk C 1025 1 [0, 1, 2, 3, 4, 5, 6] (pc' := 1631) (lv' := [(0, .inr (.inl (some b))), (1, .inr (.inl (some a1))), (2, .inr (.inl (some (gM G)))), (3, .inr (.inl (some a3))), (4, .inl x4), (5, .inl v214), (6, .inl v219)]) (st' := [.inl v214, .inl v221]) rfl ?_
    refine s_iceq C 1026 rfl (fun _ => ?_) (fun _ => ?_)
    · refine s_blk C 1029 1 [0, 1, 2, 3, 4, 6] (pc' := 1638) (lv' := [(0, .inr (.inl (some b))), (1, .inr (.inl (some a1))), (2, .inr (.inl (some (gM G)))), (3, .inr (.inl (some a3))), (4, .inl x4), (6, .inl v219)]) (st' := [.inl v214]) rfl ?_
      refine s_ine C 1030 rfl (fun _ => ?_) (fun _ => ?_)
      · refine s_blk C 1031 2 [0, 1, 2, 3, 4, 6] (pc' := 1643) (lv' := [(0, .inr (.inl (some b))), (1, .inr (.inl (some a1))), (2, .inr (.inl (some (gM G)))), (3, .inr (.inl (some a3))), (4, .inl x4), (6, .inl v219)]) (st' := [.inl 0, .inr (.inl (some a3))]) rfl ?_
        refine s_ldJ C 1033 rfl (fun j222 => ?_)
        refine s_blk C 1034 2 [0, 1, 2, 3, 4] (pc' := 1647) (lv' := [(0, .inr (.inl (some b))), (1, .inr (.inl (some a1))), (2, .inr (.inl (some (gM G)))), (3, .inr (.inl (some a3))), (4, .inl x4)]) (st' := [.inr (.inr ((v219).toInt64)), .inr (.inr j222)]) rfl ?_
        refine s_lcmp C 1036 rfl ?_
        refine s_ieq C 1037 rfl (fun _ => ?_) (fun _ => ?_)
        · exact wLw_law_j1653 hG C hX hE hend a1 a3 k23 H23 _ _ _ _
        refine s_blk C 1038 1 [] (pc' := 1652) (lv' := []) (st' := [.inl 0]) rfl ?_
        exact s_none
      refine s_blk C 0 0 [0, 1, 2, 3, 4] (pc' := 1653) (lv' := [(0, .inr (.inl (some b))), (1, .inr (.inl (some a1))), (2, .inr (.inl (some (gM G)))), (3, .inr (.inl (some a3))), (4, .inl x4)]) (st' := []) rfl ?_
      exact wLw_law_j1653 hG C hX hE hend a1 a3 k23 H23 _ _ _ _
    refine s_blk C 1027 1 [] (pc' := 1635) (lv' := []) (st' := [.inl 0]) rfl ?_
    exact s_none
  · obtain rfl : (1617 : Int) = off := Option.some.inj hj
    refine ⟨1656, by decide, ?_⟩
    dsimp only [tsl]
    refine s_blk C 1041 5 [0, 1, 2, 3, 4] (pc' := 1662) (lv' := [(0, .inr (.inl (some b))), (1, .inr (.inl (some a1))), (2, .inr (.inl (some (gM G)))), (3, .inr (.inl (some a3))), (4, .inl x4)]) (st' := [.inl (x4 + 1), .inr (.inl (some b)), .inr (.inl (some a1))]) rfl ?_
    refine s_sld C hX 1046 rfl (fun v223 => ?_)
    refine s_blk C 1047 4 [0, 1, 2, 3, 4] (pc' := 1668) (lv' := [(0, .inr (.inl (some b))), (1, .inr (.inl (some a1))), (2, .inr (.inl (some (gM G)))), (3, .inr (.inl (some a3))), (4, .inl x4)]) (st' := [.inl (x4 + 2), .inr (.inl (some b)), .inl v223, .inr (.inl (some a1))]) rfl ?_
    refine s_sld C hX 1051 rfl (fun v224 => ?_)
    refine s_blk C 1052 1 [0, 1, 2, 3, 4] (pc' := 1670) (lv' := [(0, .inr (.inl (some b))), (1, .inr (.inl (some a1))), (2, .inr (.inl (some (gM G)))), (3, .inr (.inl (some a3))), (4, .inl x4)]) (st' := [.inr (.inl (some a3)), .inl v224, .inl v223, .inr (.inl (some a1))]) rfl ?_
    refine s_L hE (st := []) (fun o ho => j_callSW (As := [.inr (.inl (some a1)), .inl v223, .inl v224, .inr (.inl (some a3))]) (st := []) C 1053 rfl mf_Lw_sweep ml_L_175 rfl (by decide) (by decide) (Nat.le_refl _) rfl (cLw_sweep (CX_tr C) σ M n (some a1) v223 v224 (some a3) o ho)) (fun v225 M226 n227 _ => ?_)
    refine s_blk C 1054 6 [0, 1, 2, 3, 4, 5] (pc' := 1681) (lv' := [(0, .inr (.inl (some b))), (1, .inr (.inl (some a1))), (2, .inr (.inl (some (gM G)))), (3, .inr (.inl (some a3))), (4, .inl x4), (5, .inl v225)]) (st' := [.inl (x4 + 1), .inr (.inl (some b)), .inr (.inl (some (gM G)))]) rfl ?_
    refine s_sld C hX 1060 rfl (fun v228 => ?_)
    refine s_blk C 1061 4 [0, 1, 2, 3, 4, 5] (pc' := 1687) (lv' := [(0, .inr (.inl (some b))), (1, .inr (.inl (some a1))), (2, .inr (.inl (some (gM G)))), (3, .inr (.inl (some a3))), (4, .inl x4), (5, .inl v225)]) (st' := [.inl (x4 + 2), .inr (.inl (some b)), .inl v228, .inr (.inl (some (gM G)))]) rfl ?_
    refine s_sld C hX 1065 rfl (fun v229 => ?_)
    refine s_SI hE (st := []) (fun o ho => j_callV (As := [.inl v228, .inl v229]) (st := []) (b := gM G) C 1066 rfl mf_Md_sweep ml_L_177 rfl (recv_M hG C) (by decide) (by decide) (Nat.le_refl _) rfl (cMd_sweep (CX_tr C) hG σ M226 n227 v228 v229 o ho)) (fun v230 σ231 => ?_)
    refine s_blk C 1067 2 [0, 1, 2, 3, 4, 5, 6] (pc' := 1694) (lv' := [(0, .inr (.inl (some b))), (1, .inr (.inl (some a1))), (2, .inr (.inl (some (gM G)))), (3, .inr (.inl (some a3))), (4, .inl x4), (5, .inl v225), (6, .inl v230)]) (st' := [.inr (.inl (some (gM G)))]) rfl ?_
    refine s_RI hE (st := []) (fun o ho => j_callV (As := []) (st := []) (b := gM G) C 1069 rfl mf_Md_thrown ml_L_112 rfl (recv_M hG C) (by decide) (by decide) (Nat.le_refl _) rfl (cMd_thrown (CX_tr C) hG σ231 M226 n227 o ho)) (fun v232 => ?_)
    refine s_blk C 1070 1 [0, 1, 2, 3, 4, 5, 6] (pc' := 1699) (lv' := [(0, .inr (.inl (some b))), (1, .inr (.inl (some a1))), (2, .inr (.inl (some (gM G)))), (3, .inr (.inl (some a3))), (4, .inl x4), (5, .inl v225), (6, .inl v230)]) (st' := [.inl v225, .inl v232]) rfl ?_
    refine s_iceq C 1071 rfl (fun _ => ?_) (fun _ => ?_)
    · refine s_blk C 1074 1 [0, 1, 2, 3, 4, 6] (pc' := 1706) (lv' := [(0, .inr (.inl (some b))), (1, .inr (.inl (some a1))), (2, .inr (.inl (some (gM G)))), (3, .inr (.inl (some a3))), (4, .inl x4), (6, .inl v230)]) (st' := [.inl v225]) rfl ?_
      refine s_ine C 1075 rfl (fun _ => ?_) (fun _ => ?_)
      · refine s_blk C 1076 2 [0, 1, 2, 3, 4, 6] (pc' := 1711) (lv' := [(0, .inr (.inl (some b))), (1, .inr (.inl (some a1))), (2, .inr (.inl (some (gM G)))), (3, .inr (.inl (some a3))), (4, .inl x4), (6, .inl v230)]) (st' := [.inl 0, .inr (.inl (some a3))]) rfl ?_
        refine s_ldJ C 1078 rfl (fun j233 => ?_)
        refine s_blk C 1079 2 [0, 1, 2, 3, 4] (pc' := 1715) (lv' := [(0, .inr (.inl (some b))), (1, .inr (.inl (some a1))), (2, .inr (.inl (some (gM G)))), (3, .inr (.inl (some a3))), (4, .inl x4)]) (st' := [.inr (.inr ((v230).toInt64)), .inr (.inr j233)]) rfl ?_
        refine s_lcmp C 1081 rfl ?_
        refine s_ieq C 1082 rfl (fun _ => ?_) (fun _ => ?_)
        · exact wLw_law_j1721 hG C hX hE hend a1 a3 k23 H23 _ _ _ _
        refine s_blk C 1083 1 [] (pc' := 1720) (lv' := []) (st' := [.inl 0]) rfl ?_
        exact s_none
      refine s_blk C 0 0 [0, 1, 2, 3, 4] (pc' := 1721) (lv' := [(0, .inr (.inl (some b))), (1, .inr (.inl (some a1))), (2, .inr (.inl (some (gM G)))), (3, .inr (.inl (some a3))), (4, .inl x4)]) (st' := []) rfl ?_
      exact wLw_law_j1721 hG C hX hE hend a1 a3 k23 H23 _ _ _ _
    refine s_blk C 1072 1 [] (pc' := 1703) (lv' := []) (st' := [.inl 0]) rfl ?_
    exact s_none
  · obtain rfl : (1685 : Int) = off := Option.some.inj hj
    refine ⟨1724, by decide, ?_⟩
    dsimp only [tsl]
    refine s_blk C 1086 5 [0, 1, 2, 3, 4] (pc' := 1730) (lv' := [(0, .inr (.inl (some b))), (1, .inr (.inl (some a1))), (2, .inr (.inl (some (gM G)))), (3, .inr (.inl (some a3))), (4, .inl x4)]) (st' := [.inl (x4 + 1), .inr (.inl (some b)), .inr (.inl (some a1))]) rfl ?_
    refine s_sld C hX 1091 rfl (fun v234 => ?_)
    refine s_blk C 1092 4 [0, 1, 2, 3, 4] (pc' := 1736) (lv' := [(0, .inr (.inl (some b))), (1, .inr (.inl (some a1))), (2, .inr (.inl (some (gM G)))), (3, .inr (.inl (some a3))), (4, .inl x4)]) (st' := [.inl (x4 + 2), .inr (.inl (some b)), .inl v234, .inr (.inl (some a1))]) rfl ?_
    refine s_sld C hX 1096 rfl (fun v235 => ?_)
    refine s_blk C 1097 4 [0, 1, 2, 3, 4] (pc' := 1742) (lv' := [(0, .inr (.inl (some b))), (1, .inr (.inl (some a1))), (2, .inr (.inl (some (gM G)))), (3, .inr (.inl (some a3))), (4, .inl x4)]) (st' := [.inl (x4 + 3), .inr (.inl (some b)), .inl v235, .inl v234, .inr (.inl (some a1))]) rfl ?_
    refine s_sld C hX 1101 rfl (fun v236 => ?_)
    refine s_blk C 1102 1 [0, 1, 2, 3, 4] (pc' := 1744) (lv' := [(0, .inr (.inl (some b))), (1, .inr (.inl (some a1))), (2, .inr (.inl (some (gM G)))), (3, .inr (.inl (some a3))), (4, .inl x4)]) (st' := [.inr (.inl (some a3)), .inl v236, .inl v235, .inl v234, .inr (.inl (some a1))]) rfl ?_
    refine s_L hE (st := []) (fun o ho => j_callSW (As := [.inr (.inl (some a1)), .inl v234, .inl v235, .inl v236, .inr (.inl (some a3))]) (st := []) C 1103 rfl mf_Lw_rule ml_L_178 rfl (by decide) (by decide) (Nat.le_refl _) rfl (cLw_rule (CX_tr C) σ M n (some a1) v234 v235 v236 (some a3) o ho)) (fun v237 M238 n239 _ => ?_)
    refine s_blk C 1104 6 [0, 1, 2, 3, 4, 5] (pc' := 1755) (lv' := [(0, .inr (.inl (some b))), (1, .inr (.inl (some a1))), (2, .inr (.inl (some (gM G)))), (3, .inr (.inl (some a3))), (4, .inl x4), (5, .inl v237)]) (st' := [.inl (x4 + 1), .inr (.inl (some b)), .inr (.inl (some (gM G)))]) rfl ?_
    refine s_sld C hX 1110 rfl (fun v240 => ?_)
    refine s_blk C 1111 4 [0, 1, 2, 3, 4, 5] (pc' := 1761) (lv' := [(0, .inr (.inl (some b))), (1, .inr (.inl (some a1))), (2, .inr (.inl (some (gM G)))), (3, .inr (.inl (some a3))), (4, .inl x4), (5, .inl v237)]) (st' := [.inl (x4 + 2), .inr (.inl (some b)), .inl v240, .inr (.inl (some (gM G)))]) rfl ?_
    refine s_sld C hX 1115 rfl (fun v241 => ?_)
    refine s_blk C 1116 4 [0, 1, 2, 3, 4, 5] (pc' := 1767) (lv' := [(0, .inr (.inl (some b))), (1, .inr (.inl (some a1))), (2, .inr (.inl (some (gM G)))), (3, .inr (.inl (some a3))), (4, .inl x4), (5, .inl v237)]) (st' := [.inl (x4 + 3), .inr (.inl (some b)), .inl v241, .inl v240, .inr (.inl (some (gM G)))]) rfl ?_
    refine s_sld C hX 1120 rfl (fun v242 => ?_)
    refine s_SI hE (st := []) (fun o ho => j_callV (As := [.inl v240, .inl v241, .inl v242]) (st := []) (b := gM G) C 1121 rfl mf_Md_rule ml_L_180 rfl (recv_M hG C) (by decide) (by decide) (Nat.le_refl _) rfl (cMd_rule (CX_tr C) hG σ M238 n239 v240 v241 v242 o ho)) (fun v243 σ244 => ?_)
    refine s_blk C 1122 2 [0, 1, 2, 3, 4, 5, 6] (pc' := 1774) (lv' := [(0, .inr (.inl (some b))), (1, .inr (.inl (some a1))), (2, .inr (.inl (some (gM G)))), (3, .inr (.inl (some a3))), (4, .inl x4), (5, .inl v237), (6, .inl v243)]) (st' := [.inr (.inl (some (gM G)))]) rfl ?_
    refine s_RI hE (st := []) (fun o ho => j_callV (As := []) (st := []) (b := gM G) C 1124 rfl mf_Md_thrown ml_L_112 rfl (recv_M hG C) (by decide) (by decide) (Nat.le_refl _) rfl (cMd_thrown (CX_tr C) hG σ244 M238 n239 o ho)) (fun v245 => ?_)
    refine s_blk C 1125 1 [0, 1, 2, 3, 4, 5, 6] (pc' := 1779) (lv' := [(0, .inr (.inl (some b))), (1, .inr (.inl (some a1))), (2, .inr (.inl (some (gM G)))), (3, .inr (.inl (some a3))), (4, .inl x4), (5, .inl v237), (6, .inl v243)]) (st' := [.inl v237, .inl v245]) rfl ?_
    refine s_iceq C 1126 rfl (fun _ => ?_) (fun _ => ?_)
    · refine s_blk C 1129 1 [0, 1, 2, 3, 4, 6] (pc' := 1786) (lv' := [(0, .inr (.inl (some b))), (1, .inr (.inl (some a1))), (2, .inr (.inl (some (gM G)))), (3, .inr (.inl (some a3))), (4, .inl x4), (6, .inl v243)]) (st' := [.inl v237]) rfl ?_
      refine s_ine C 1130 rfl (fun _ => ?_) (fun _ => ?_)
      · refine s_blk C 1131 2 [0, 1, 2, 3, 4, 6] (pc' := 1791) (lv' := [(0, .inr (.inl (some b))), (1, .inr (.inl (some a1))), (2, .inr (.inl (some (gM G)))), (3, .inr (.inl (some a3))), (4, .inl x4), (6, .inl v243)]) (st' := [.inl 0, .inr (.inl (some a3))]) rfl ?_
        refine s_ldJ C 1133 rfl (fun j246 => ?_)
        refine s_blk C 1134 2 [0, 1, 2, 3, 4] (pc' := 1795) (lv' := [(0, .inr (.inl (some b))), (1, .inr (.inl (some a1))), (2, .inr (.inl (some (gM G)))), (3, .inr (.inl (some a3))), (4, .inl x4)]) (st' := [.inr (.inr ((v243).toInt64)), .inr (.inr j246)]) rfl ?_
        refine s_lcmp C 1136 rfl ?_
        refine s_ieq C 1137 rfl (fun _ => ?_) (fun _ => ?_)
        · exact wLw_law_j1801 hG C hX hE hend a1 a3 k23 H23 _ _ _ _
        refine s_blk C 1138 1 [] (pc' := 1800) (lv' := []) (st' := [.inl 0]) rfl ?_
        exact s_none
      refine s_blk C 0 0 [0, 1, 2, 3, 4] (pc' := 1801) (lv' := [(0, .inr (.inl (some b))), (1, .inr (.inl (some a1))), (2, .inr (.inl (some (gM G)))), (3, .inr (.inl (some a3))), (4, .inl x4)]) (st' := []) rfl ?_
      exact wLw_law_j1801 hG C hX hE hend a1 a3 k23 H23 _ _ _ _
    refine s_blk C 1127 1 [] (pc' := 1783) (lv' := []) (st' := [.inl 0]) rfl ?_
    exact s_none
  · obtain rfl : (1765 : Int) = off := Option.some.inj hj
    refine ⟨1804, by decide, ?_⟩
    dsimp only [tsl]
    refine s_blk C 1141 5 [0, 1, 2, 3, 4] (pc' := 1810) (lv' := [(0, .inr (.inl (some b))), (1, .inr (.inl (some a1))), (2, .inr (.inl (some (gM G)))), (3, .inr (.inl (some a3))), (4, .inl x4)]) (st' := [.inl (x4 + 1), .inr (.inl (some b)), .inr (.inl (some a1))]) rfl ?_
    refine s_sld C hX 1146 rfl (fun v247 => ?_)
    refine s_blk C 1147 1 [0, 1, 2, 3, 4] (pc' := 1812) (lv' := [(0, .inr (.inl (some b))), (1, .inr (.inl (some a1))), (2, .inr (.inl (some (gM G)))), (3, .inr (.inl (some a3))), (4, .inl x4)]) (st' := [.inr (.inl (some a3)), .inl v247, .inr (.inl (some a1))]) rfl ?_
    refine s_L hE (st := []) (fun o ho => j_callSW (As := [.inr (.inl (some a1)), .inl v247, .inr (.inl (some a3))]) (st := []) C 1148 rfl mf_Lw_pass ml_L_181 rfl (by decide) (by decide) (Nat.le_refl _) rfl (cLw_pass (CX_tr C) σ M n (some a1) v247 (some a3) o ho)) (fun v248 M249 n250 _ => ?_)
    refine s_blk C 1149 6 [0, 1, 2, 3, 4, 5] (pc' := 1823) (lv' := [(0, .inr (.inl (some b))), (1, .inr (.inl (some a1))), (2, .inr (.inl (some (gM G)))), (3, .inr (.inl (some a3))), (4, .inl x4), (5, .inl v248)]) (st' := [.inl (x4 + 1), .inr (.inl (some b)), .inr (.inl (some (gM G)))]) rfl ?_
    refine s_sld C hX 1155 rfl (fun v251 => ?_)
    refine s_SI hE (st := []) (fun o ho => j_callV (As := [.inl v251]) (st := []) (b := gM G) C 1156 rfl mf_Md_pass ml_L_184 rfl (recv_M hG C) (by decide) (by decide) (Nat.le_refl _) rfl (cMd_pass (CX_tr C) hG σ M249 n250 v251 o ho)) (fun v252 σ253 => ?_)
    refine s_blk C 1157 2 [0, 1, 2, 3, 4, 5, 6] (pc' := 1830) (lv' := [(0, .inr (.inl (some b))), (1, .inr (.inl (some a1))), (2, .inr (.inl (some (gM G)))), (3, .inr (.inl (some a3))), (4, .inl x4), (5, .inl v248), (6, .inl v252)]) (st' := [.inr (.inl (some (gM G)))]) rfl ?_
    refine s_RI hE (st := []) (fun o ho => j_callV (As := []) (st := []) (b := gM G) C 1159 rfl mf_Md_thrown ml_L_112 rfl (recv_M hG C) (by decide) (by decide) (Nat.le_refl _) rfl (cMd_thrown (CX_tr C) hG σ253 M249 n250 o ho)) (fun v254 => ?_)
    refine s_blk C 1160 1 [0, 1, 2, 3, 4, 5, 6] (pc' := 1835) (lv' := [(0, .inr (.inl (some b))), (1, .inr (.inl (some a1))), (2, .inr (.inl (some (gM G)))), (3, .inr (.inl (some a3))), (4, .inl x4), (5, .inl v248), (6, .inl v252)]) (st' := [.inl v248, .inl v254]) rfl ?_
    refine s_iceq C 1161 rfl (fun _ => ?_) (fun _ => ?_)
    · refine s_blk C 1164 1 [0, 1, 2, 3, 4, 6] (pc' := 1842) (lv' := [(0, .inr (.inl (some b))), (1, .inr (.inl (some a1))), (2, .inr (.inl (some (gM G)))), (3, .inr (.inl (some a3))), (4, .inl x4), (6, .inl v252)]) (st' := [.inl v248]) rfl ?_
      refine s_ine C 1165 rfl (fun _ => ?_) (fun _ => ?_)
      · refine s_blk C 1166 2 [0, 1, 2, 3, 4, 6] (pc' := 1847) (lv' := [(0, .inr (.inl (some b))), (1, .inr (.inl (some a1))), (2, .inr (.inl (some (gM G)))), (3, .inr (.inl (some a3))), (4, .inl x4), (6, .inl v252)]) (st' := [.inl 0, .inr (.inl (some a3))]) rfl ?_
        refine s_ldJ C 1168 rfl (fun j255 => ?_)
        refine s_blk C 1169 2 [0, 1, 2, 3, 4] (pc' := 1851) (lv' := [(0, .inr (.inl (some b))), (1, .inr (.inl (some a1))), (2, .inr (.inl (some (gM G)))), (3, .inr (.inl (some a3))), (4, .inl x4)]) (st' := [.inr (.inr ((v252).toInt64)), .inr (.inr j255)]) rfl ?_
        refine s_lcmp C 1171 rfl ?_
        refine s_ieq C 1172 rfl (fun _ => ?_) (fun _ => ?_)
        · exact wLw_law_j1857 hG C hX hE hend a1 a3 k23 H23 _ _ _ _
        refine s_blk C 1173 1 [] (pc' := 1856) (lv' := []) (st' := [.inl 0]) rfl ?_
        exact s_none
      refine s_blk C 0 0 [0, 1, 2, 3, 4] (pc' := 1857) (lv' := [(0, .inr (.inl (some b))), (1, .inr (.inl (some a1))), (2, .inr (.inl (some (gM G)))), (3, .inr (.inl (some a3))), (4, .inl x4)]) (st' := []) rfl ?_
      exact wLw_law_j1857 hG C hX hE hend a1 a3 k23 H23 _ _ _ _
    refine s_blk C 1162 1 [] (pc' := 1839) (lv' := []) (st' := [.inl 0]) rfl ?_
    exact s_none
  · obtain rfl : (1821 : Int) = off := Option.some.inj hj
    refine ⟨1860, by decide, ?_⟩
    dsimp only [tsl]
    refine s_blk C 1176 5 [0, 1, 2, 3, 4] (pc' := 1866) (lv' := [(0, .inr (.inl (some b))), (1, .inr (.inl (some a1))), (2, .inr (.inl (some (gM G)))), (3, .inr (.inl (some a3))), (4, .inl x4)]) (st' := [.inl (x4 + 1), .inr (.inl (some b)), .inr (.inl (some a1))]) rfl ?_
    refine s_sld C hX 1181 rfl (fun v256 => ?_)
    refine s_blk C 1182 1 [0, 1, 2, 3, 4] (pc' := 1868) (lv' := [(0, .inr (.inl (some b))), (1, .inr (.inl (some a1))), (2, .inr (.inl (some (gM G)))), (3, .inr (.inl (some a3))), (4, .inl x4)]) (st' := [.inr (.inl (some a3)), .inl v256, .inr (.inl (some a1))]) rfl ?_
    refine s_L hE (st := []) (fun o ho => j_callSW (As := [.inr (.inl (some a1)), .inl v256, .inr (.inl (some a3))]) (st := []) C 1183 rfl mf_Lw_cost ml_L_185 rfl (by decide) (by decide) (Nat.le_refl _) rfl (cLw_cost (CX_tr C) σ M n (some a1) v256 (some a3) o ho)) (fun v257 M258 n259 _ => ?_)
    refine s_blk C 1184 6 [0, 1, 2, 3, 4, 5] (pc' := 1879) (lv' := [(0, .inr (.inl (some b))), (1, .inr (.inl (some a1))), (2, .inr (.inl (some (gM G)))), (3, .inr (.inl (some a3))), (4, .inl x4), (5, .inl v257)]) (st' := [.inl (x4 + 1), .inr (.inl (some b)), .inr (.inl (some (gM G)))]) rfl ?_
    refine s_sld C hX 1190 rfl (fun v260 => ?_)
    refine s_SI hE (st := []) (fun o ho => j_callV (As := [.inl v260]) (st := []) (b := gM G) C 1191 rfl mf_Md_cost ml_L_187 rfl (recv_M hG C) (by decide) (by decide) (Nat.le_refl _) rfl (cMd_cost (CX_tr C) hG σ M258 n259 v260 o ho)) (fun v261 σ262 => ?_)
    refine s_blk C 1192 2 [0, 1, 2, 3, 4, 5, 6] (pc' := 1886) (lv' := [(0, .inr (.inl (some b))), (1, .inr (.inl (some a1))), (2, .inr (.inl (some (gM G)))), (3, .inr (.inl (some a3))), (4, .inl x4), (5, .inl v257), (6, .inl v261)]) (st' := [.inr (.inl (some (gM G)))]) rfl ?_
    refine s_RI hE (st := []) (fun o ho => j_callV (As := []) (st := []) (b := gM G) C 1194 rfl mf_Md_thrown ml_L_112 rfl (recv_M hG C) (by decide) (by decide) (Nat.le_refl _) rfl (cMd_thrown (CX_tr C) hG σ262 M258 n259 o ho)) (fun v263 => ?_)
    refine s_blk C 1195 1 [0, 1, 2, 3, 4, 5, 6] (pc' := 1891) (lv' := [(0, .inr (.inl (some b))), (1, .inr (.inl (some a1))), (2, .inr (.inl (some (gM G)))), (3, .inr (.inl (some a3))), (4, .inl x4), (5, .inl v257), (6, .inl v261)]) (st' := [.inl v257, .inl v263]) rfl ?_
    refine s_iceq C 1196 rfl (fun _ => ?_) (fun _ => ?_)
    · refine s_blk C 1199 1 [0, 1, 2, 3, 4, 6] (pc' := 1898) (lv' := [(0, .inr (.inl (some b))), (1, .inr (.inl (some a1))), (2, .inr (.inl (some (gM G)))), (3, .inr (.inl (some a3))), (4, .inl x4), (6, .inl v261)]) (st' := [.inl v257]) rfl ?_
      refine s_ine C 1200 rfl (fun _ => ?_) (fun _ => ?_)
      · refine s_blk C 1201 2 [0, 1, 2, 3, 4, 6] (pc' := 1903) (lv' := [(0, .inr (.inl (some b))), (1, .inr (.inl (some a1))), (2, .inr (.inl (some (gM G)))), (3, .inr (.inl (some a3))), (4, .inl x4), (6, .inl v261)]) (st' := [.inl 0, .inr (.inl (some a3))]) rfl ?_
        refine s_ldJ C 1203 rfl (fun j264 => ?_)
        refine s_blk C 1204 2 [0, 1, 2, 3, 4] (pc' := 1907) (lv' := [(0, .inr (.inl (some b))), (1, .inr (.inl (some a1))), (2, .inr (.inl (some (gM G)))), (3, .inr (.inl (some a3))), (4, .inl x4)]) (st' := [.inr (.inr ((v261).toInt64)), .inr (.inr j264)]) rfl ?_
        refine s_lcmp C 1206 rfl ?_
        refine s_ieq C 1207 rfl (fun _ => ?_) (fun _ => ?_)
        · exact wLw_law_j1913 hG C hX hE hend a1 a3 k23 H23 _ _ _ _
        refine s_blk C 1208 1 [] (pc' := 1912) (lv' := []) (st' := [.inl 0]) rfl ?_
        exact s_none
      refine s_blk C 0 0 [0, 1, 2, 3, 4] (pc' := 1913) (lv' := [(0, .inr (.inl (some b))), (1, .inr (.inl (some a1))), (2, .inr (.inl (some (gM G)))), (3, .inr (.inl (some a3))), (4, .inl x4)]) (st' := []) rfl ?_
      exact wLw_law_j1913 hG C hX hE hend a1 a3 k23 H23 _ _ _ _
    refine s_blk C 1197 1 [] (pc' := 1895) (lv' := []) (st' := [.inl 0]) rfl ?_
    exact s_none
  · obtain rfl : (1877 : Int) = off := Option.some.inj hj
    refine ⟨1916, by decide, ?_⟩
    dsimp only [tsl]
    refine s_blk C 1211 5 [0, 1, 2, 3, 4] (pc' := 1922) (lv' := [(0, .inr (.inl (some b))), (1, .inr (.inl (some a1))), (2, .inr (.inl (some (gM G)))), (3, .inr (.inl (some a3))), (4, .inl x4)]) (st' := [.inl (x4 + 1), .inr (.inl (some b)), .inr (.inl (some a1))]) rfl ?_
    refine s_sld C hX 1216 rfl (fun v265 => ?_)
    refine s_blk C 1217 4 [0, 1, 2, 3, 4] (pc' := 1928) (lv' := [(0, .inr (.inl (some b))), (1, .inr (.inl (some a1))), (2, .inr (.inl (some (gM G)))), (3, .inr (.inl (some a3))), (4, .inl x4)]) (st' := [.inl (x4 + 2), .inr (.inl (some b)), .inl v265, .inr (.inl (some a1))]) rfl ?_
    refine s_sld C hX 1221 rfl (fun v266 => ?_)
    refine s_blk C 1222 1 [0, 1, 2, 3, 4] (pc' := 1930) (lv' := [(0, .inr (.inl (some b))), (1, .inr (.inl (some a1))), (2, .inr (.inl (some (gM G)))), (3, .inr (.inl (some a3))), (4, .inl x4)]) (st' := [.inr (.inl (some a3)), .inl v266, .inl v265, .inr (.inl (some a1))]) rfl ?_
    refine s_L hE (st := []) (fun o ho => j_callSW (As := [.inr (.inl (some a1)), .inl v265, .inl v266, .inr (.inl (some a3))]) (st := []) C 1223 rfl mf_Lw_follow ml_L_188 rfl (by decide) (by decide) (Nat.le_refl _) rfl (cLw_follow (CX_tr C) σ M n (some a1) v265 v266 (some a3) o ho)) (fun v267 M268 n269 _ => ?_)
    refine s_blk C 1224 6 [0, 1, 2, 3, 4, 5] (pc' := 1941) (lv' := [(0, .inr (.inl (some b))), (1, .inr (.inl (some a1))), (2, .inr (.inl (some (gM G)))), (3, .inr (.inl (some a3))), (4, .inl x4), (5, .inl v267)]) (st' := [.inl (x4 + 1), .inr (.inl (some b)), .inr (.inl (some (gM G)))]) rfl ?_
    refine s_sld C hX 1230 rfl (fun v270 => ?_)
    refine s_blk C 1231 4 [0, 1, 2, 3, 4, 5] (pc' := 1947) (lv' := [(0, .inr (.inl (some b))), (1, .inr (.inl (some a1))), (2, .inr (.inl (some (gM G)))), (3, .inr (.inl (some a3))), (4, .inl x4), (5, .inl v267)]) (st' := [.inl (x4 + 2), .inr (.inl (some b)), .inl v270, .inr (.inl (some (gM G)))]) rfl ?_
    refine s_sld C hX 1235 rfl (fun v271 => ?_)
    refine s_SI hE (st := []) (fun o ho => j_callV (As := [.inl v270, .inl v271]) (st := []) (b := gM G) C 1236 rfl mf_Md_follow ml_L_190 rfl (recv_M hG C) (by decide) (by decide) (Nat.le_refl _) rfl (cMd_follow (CX_tr C) hG σ M268 n269 v270 v271 o ho)) (fun v272 σ273 => ?_)
    refine s_blk C 1237 2 [0, 1, 2, 3, 4, 5, 6] (pc' := 1954) (lv' := [(0, .inr (.inl (some b))), (1, .inr (.inl (some a1))), (2, .inr (.inl (some (gM G)))), (3, .inr (.inl (some a3))), (4, .inl x4), (5, .inl v267), (6, .inl v272)]) (st' := [.inr (.inl (some (gM G)))]) rfl ?_
    refine s_RI hE (st := []) (fun o ho => j_callV (As := []) (st := []) (b := gM G) C 1239 rfl mf_Md_thrown ml_L_112 rfl (recv_M hG C) (by decide) (by decide) (Nat.le_refl _) rfl (cMd_thrown (CX_tr C) hG σ273 M268 n269 o ho)) (fun v274 => ?_)
    refine s_blk C 1240 1 [0, 1, 2, 3, 4, 5, 6] (pc' := 1959) (lv' := [(0, .inr (.inl (some b))), (1, .inr (.inl (some a1))), (2, .inr (.inl (some (gM G)))), (3, .inr (.inl (some a3))), (4, .inl x4), (5, .inl v267), (6, .inl v272)]) (st' := [.inl v267, .inl v274]) rfl ?_
    refine s_iceq C 1241 rfl (fun _ => ?_) (fun _ => ?_)
    · refine s_blk C 1244 1 [0, 1, 2, 3, 4, 6] (pc' := 1966) (lv' := [(0, .inr (.inl (some b))), (1, .inr (.inl (some a1))), (2, .inr (.inl (some (gM G)))), (3, .inr (.inl (some a3))), (4, .inl x4), (6, .inl v272)]) (st' := [.inl v267]) rfl ?_
      refine s_ine C 1245 rfl (fun _ => ?_) (fun _ => ?_)
      · refine s_blk C 1246 2 [0, 1, 2, 3, 4, 6] (pc' := 1971) (lv' := [(0, .inr (.inl (some b))), (1, .inr (.inl (some a1))), (2, .inr (.inl (some (gM G)))), (3, .inr (.inl (some a3))), (4, .inl x4), (6, .inl v272)]) (st' := [.inl 0, .inr (.inl (some a3))]) rfl ?_
        refine s_ldJ C 1248 rfl (fun j275 => ?_)
        refine s_blk C 1249 2 [0, 1, 2, 3, 4] (pc' := 1975) (lv' := [(0, .inr (.inl (some b))), (1, .inr (.inl (some a1))), (2, .inr (.inl (some (gM G)))), (3, .inr (.inl (some a3))), (4, .inl x4)]) (st' := [.inr (.inr ((v272).toInt64)), .inr (.inr j275)]) rfl ?_
        refine s_lcmp C 1251 rfl ?_
        refine s_ieq C 1252 rfl (fun _ => ?_) (fun _ => ?_)
        · exact wLw_law_j1981 hG C hX hE hend a1 a3 k23 H23 _ _ _ _
        refine s_blk C 1253 1 [] (pc' := 1980) (lv' := []) (st' := [.inl 0]) rfl ?_
        exact s_none
      refine s_blk C 0 0 [0, 1, 2, 3, 4] (pc' := 1981) (lv' := [(0, .inr (.inl (some b))), (1, .inr (.inl (some a1))), (2, .inr (.inl (some (gM G)))), (3, .inr (.inl (some a3))), (4, .inl x4)]) (st' := []) rfl ?_
      exact wLw_law_j1981 hG C hX hE hend a1 a3 k23 H23 _ _ _ _
    refine s_blk C 1242 1 [] (pc' := 1963) (lv' := []) (st' := [.inl 0]) rfl ?_
    exact s_none
  · obtain rfl : (1945 : Int) = off := Option.some.inj hj
    refine ⟨1984, by decide, ?_⟩
    dsimp only [tsl]
    refine s_blk C 1256 5 [0, 1, 2, 3, 4] (pc' := 1990) (lv' := [(0, .inr (.inl (some b))), (1, .inr (.inl (some a1))), (2, .inr (.inl (some (gM G)))), (3, .inr (.inl (some a3))), (4, .inl x4)]) (st' := [.inl (x4 + 1), .inr (.inl (some b)), .inr (.inl (some a1))]) rfl ?_
    refine s_sld C hX 1261 rfl (fun v276 => ?_)
    refine s_blk C 1262 1 [0, 1, 2, 3, 4] (pc' := 1992) (lv' := [(0, .inr (.inl (some b))), (1, .inr (.inl (some a1))), (2, .inr (.inl (some (gM G)))), (3, .inr (.inl (some a3))), (4, .inl x4)]) (st' := [.inr (.inl (some a3)), .inl v276, .inr (.inl (some a1))]) rfl ?_
    refine s_L hE (st := []) (fun o ho => j_callSW (As := [.inr (.inl (some a1)), .inl v276, .inr (.inl (some a3))]) (st := []) C 1263 rfl mf_Lw_behind ml_L_191 rfl (by decide) (by decide) (Nat.le_refl _) rfl (cLw_behind (CX_tr C) σ M n (some a1) v276 (some a3) o ho)) (fun v277 M278 n279 _ => ?_)
    refine s_blk C 1264 6 [0, 1, 2, 3, 4, 5] (pc' := 2003) (lv' := [(0, .inr (.inl (some b))), (1, .inr (.inl (some a1))), (2, .inr (.inl (some (gM G)))), (3, .inr (.inl (some a3))), (4, .inl x4), (5, .inl v277)]) (st' := [.inl (x4 + 1), .inr (.inl (some b)), .inr (.inl (some (gM G)))]) rfl ?_
    refine s_sld C hX 1270 rfl (fun v280 => ?_)
    refine s_SI hE (st := []) (fun o ho => j_callV (As := [.inl v280]) (st := []) (b := gM G) C 1271 rfl mf_Md_behind ml_L_193 rfl (recv_M hG C) (by decide) (by decide) (Nat.le_refl _) rfl (cMd_behind (CX_tr C) hG σ M278 n279 v280 o ho)) (fun v281 σ282 => ?_)
    refine s_blk C 1272 2 [0, 1, 2, 3, 4, 5, 6] (pc' := 2010) (lv' := [(0, .inr (.inl (some b))), (1, .inr (.inl (some a1))), (2, .inr (.inl (some (gM G)))), (3, .inr (.inl (some a3))), (4, .inl x4), (5, .inl v277), (6, .inl v281)]) (st' := [.inr (.inl (some (gM G)))]) rfl ?_
    refine s_RI hE (st := []) (fun o ho => j_callV (As := []) (st := []) (b := gM G) C 1274 rfl mf_Md_thrown ml_L_112 rfl (recv_M hG C) (by decide) (by decide) (Nat.le_refl _) rfl (cMd_thrown (CX_tr C) hG σ282 M278 n279 o ho)) (fun v283 => ?_)
    refine s_blk C 1275 1 [0, 1, 2, 3, 4, 5, 6] (pc' := 2015) (lv' := [(0, .inr (.inl (some b))), (1, .inr (.inl (some a1))), (2, .inr (.inl (some (gM G)))), (3, .inr (.inl (some a3))), (4, .inl x4), (5, .inl v277), (6, .inl v281)]) (st' := [.inl v277, .inl v283]) rfl ?_
    refine s_iceq C 1276 rfl (fun _ => ?_) (fun _ => ?_)
    · refine s_blk C 1279 1 [0, 1, 2, 3, 4, 6] (pc' := 2022) (lv' := [(0, .inr (.inl (some b))), (1, .inr (.inl (some a1))), (2, .inr (.inl (some (gM G)))), (3, .inr (.inl (some a3))), (4, .inl x4), (6, .inl v281)]) (st' := [.inl v277]) rfl ?_
      refine s_ine C 1280 rfl (fun _ => ?_) (fun _ => ?_)
      · refine s_blk C 1281 2 [0, 1, 2, 3, 4, 6] (pc' := 2027) (lv' := [(0, .inr (.inl (some b))), (1, .inr (.inl (some a1))), (2, .inr (.inl (some (gM G)))), (3, .inr (.inl (some a3))), (4, .inl x4), (6, .inl v281)]) (st' := [.inl 0, .inr (.inl (some a3))]) rfl ?_
        refine s_ldJ C 1283 rfl (fun j284 => ?_)
        refine s_blk C 1284 2 [0, 1, 2, 3, 4] (pc' := 2031) (lv' := [(0, .inr (.inl (some b))), (1, .inr (.inl (some a1))), (2, .inr (.inl (some (gM G)))), (3, .inr (.inl (some a3))), (4, .inl x4)]) (st' := [.inr (.inr ((v281).toInt64)), .inr (.inr j284)]) rfl ?_
        refine s_lcmp C 1286 rfl ?_
        refine s_ieq C 1287 rfl (fun _ => ?_) (fun _ => ?_)
        · exact wLw_law_j2037 hG C hX hE hend a1 a3 k23 H23 _ _ _ _
        refine s_blk C 1288 1 [] (pc' := 2036) (lv' := []) (st' := [.inl 0]) rfl ?_
        exact s_none
      refine s_blk C 0 0 [0, 1, 2, 3, 4] (pc' := 2037) (lv' := [(0, .inr (.inl (some b))), (1, .inr (.inl (some a1))), (2, .inr (.inl (some (gM G)))), (3, .inr (.inl (some a3))), (4, .inl x4)]) (st' := []) rfl ?_
      exact wLw_law_j2037 hG C hX hE hend a1 a3 k23 H23 _ _ _ _
    refine s_blk C 1277 1 [] (pc' := 2019) (lv' := []) (st' := [.inl 0]) rfl ?_
    exact s_none
  · obtain rfl : (2001 : Int) = off := Option.some.inj hj
    refine ⟨2040, by decide, ?_⟩
    dsimp only [tsl]
    refine s_blk C 1291 1 [0, 1, 2, 3, 4] (pc' := 2041) (lv' := [(0, .inr (.inl (some b))), (1, .inr (.inl (some a1))), (2, .inr (.inl (some (gM G)))), (3, .inr (.inl (some a3))), (4, .inl x4)]) (st' := [.inr (.inl (some a1))]) rfl ?_
    refine s_rks (fun hk285 => ?_)
    refine s_RI hE (st := []) (fun o ho => j_callV (As := []) (st := []) (b := a1) C 1292 rfl mf_Hb_areAlike ml_L_194 rfl (recv_K C (by decide) (by decide) rfl hk285) (by decide) (by decide) (Nat.le_refl _) rfl (cHb_areAlike (CX_tr C) σ M n a1 o ho)) (fun v287 => ?_)
    refine s_blk C 1293 1 [0, 1, 2, 3, 4] (pc' := 2045) (lv' := [(0, .inr (.inl (some b))), (1, .inr (.inl (some a1))), (2, .inr (.inl (some (gM G)))), (3, .inr (.inl (some a3))), (4, .inl x4)]) (st' := [.inr (.inl (some (gM G))), .inl v287]) rfl ?_
    refine s_SI hE (st := [.inl v287]) (fun o ho => j_callV (As := []) (st := [.inl v287]) (b := gM G) C 1294 rfl mf_Md_areAlike ml_L_198 rfl (recv_M hG C) (by decide) (by decide) (Nat.le_refl _) rfl (cMd_areAlike (CX_tr C) hG σ M n o ho)) (fun v288 σ289 => ?_)
    refine s_iceq C 1295 rfl (fun _ => ?_) (fun _ => ?_)
    · exact wLw_law_j2184 hG C hX hE hend a1 a3 k23 H23 _ _ _ _
    refine s_blk C 1296 1 [] (pc' := 2052) (lv' := []) (st' := [.inl 0]) rfl ?_
    exact s_none
  · obtain rfl : (2014 : Int) = off := Option.some.inj hj
    refine ⟨2053, by decide, ?_⟩
    dsimp only [tsl]
    refine s_blk C 1298 5 [0, 1, 2, 3, 4] (pc' := 2059) (lv' := [(0, .inr (.inl (some b))), (1, .inr (.inl (some a1))), (2, .inr (.inl (some (gM G)))), (3, .inr (.inl (some a3))), (4, .inl x4)]) (st' := [.inl (x4 + 1), .inr (.inl (some b)), .inr (.inl (some a1))]) rfl ?_
    refine s_sld C hX 1303 rfl (fun v290 => ?_)
    refine s_blk C 1304 1 [0, 1, 2, 3, 4] (pc' := 2061) (lv' := [(0, .inr (.inl (some b))), (1, .inr (.inl (some a1))), (2, .inr (.inl (some (gM G)))), (3, .inr (.inl (some a3))), (4, .inl x4)]) (st' := [.inr (.inl (some a3)), .inl v290, .inr (.inl (some a1))]) rfl ?_
    refine s_L hE (st := []) (fun o ho => j_callSW (As := [.inr (.inl (some a1)), .inl v290, .inr (.inl (some a3))]) (st := []) C 1305 rfl mf_Lw_agrees ml_L_199 rfl (by decide) (by decide) (Nat.le_refl _) rfl (cLw_agrees (CX_tr C) σ M n (some a1) v290 (some a3) o ho)) (fun v291 M292 n293 _ => ?_)
    refine s_blk C 1306 6 [0, 1, 2, 3, 4, 5] (pc' := 2072) (lv' := [(0, .inr (.inl (some b))), (1, .inr (.inl (some a1))), (2, .inr (.inl (some (gM G)))), (3, .inr (.inl (some a3))), (4, .inl x4), (5, .inl v291)]) (st' := [.inl (x4 + 1), .inr (.inl (some b)), .inr (.inl (some (gM G)))]) rfl ?_
    refine s_sld C hX 1312 rfl (fun v294 => ?_)
    refine s_SI hE (st := []) (fun o ho => j_callV (As := [.inl v294]) (st := []) (b := gM G) C 1313 rfl mf_Md_agrees ml_L_201 rfl (recv_M hG C) (by decide) (by decide) (Nat.le_refl _) rfl (cMd_agrees (CX_tr C) hG σ M292 n293 v294 o ho)) (fun v295 σ296 => ?_)
    refine s_blk C 1314 2 [0, 1, 2, 3, 4, 5, 6] (pc' := 2079) (lv' := [(0, .inr (.inl (some b))), (1, .inr (.inl (some a1))), (2, .inr (.inl (some (gM G)))), (3, .inr (.inl (some a3))), (4, .inl x4), (5, .inl v291), (6, .inl v295)]) (st' := [.inr (.inl (some (gM G)))]) rfl ?_
    refine s_RI hE (st := []) (fun o ho => j_callV (As := []) (st := []) (b := gM G) C 1316 rfl mf_Md_thrown ml_L_112 rfl (recv_M hG C) (by decide) (by decide) (Nat.le_refl _) rfl (cMd_thrown (CX_tr C) hG σ296 M292 n293 o ho)) (fun v297 => ?_)
    refine s_blk C 1317 1 [0, 1, 2, 3, 4, 5, 6] (pc' := 2084) (lv' := [(0, .inr (.inl (some b))), (1, .inr (.inl (some a1))), (2, .inr (.inl (some (gM G)))), (3, .inr (.inl (some a3))), (4, .inl x4), (5, .inl v291), (6, .inl v295)]) (st' := [.inl v291, .inl v297]) rfl ?_
    refine s_iceq C 1318 rfl (fun _ => ?_) (fun _ => ?_)
    · refine s_blk C 1321 1 [0, 1, 2, 3, 4, 6] (pc' := 2091) (lv' := [(0, .inr (.inl (some b))), (1, .inr (.inl (some a1))), (2, .inr (.inl (some (gM G)))), (3, .inr (.inl (some a3))), (4, .inl x4), (6, .inl v295)]) (st' := [.inl v291]) rfl ?_
      refine s_ine C 1322 rfl (fun _ => ?_) (fun _ => ?_)
      · refine s_blk C 1323 2 [0, 1, 2, 3, 4, 6] (pc' := 2096) (lv' := [(0, .inr (.inl (some b))), (1, .inr (.inl (some a1))), (2, .inr (.inl (some (gM G)))), (3, .inr (.inl (some a3))), (4, .inl x4), (6, .inl v295)]) (st' := [.inl 0, .inr (.inl (some a3))]) rfl ?_
        refine s_ldJ C 1325 rfl (fun j298 => ?_)
        refine s_blk C 1326 1 [0, 1, 2, 3, 4] (pc' := 2099) (lv' := [(0, .inr (.inl (some b))), (1, .inr (.inl (some a1))), (2, .inr (.inl (some (gM G)))), (3, .inr (.inl (some a3))), (4, .inl x4)]) (st' := [.inl v295, .inr (.inr j298)]) rfl ?_
        refine s_ieq C 1327 rfl (fun _ => ?_) (fun _ => ?_)
        · refine s_blk C 1330 1 [0, 1, 2, 3, 4] (pc' := 2107) (lv' := [(0, .inr (.inl (some b))), (1, .inr (.inl (some a1))), (2, .inr (.inl (some (gM G)))), (3, .inr (.inl (some a3))), (4, .inl x4)]) (st' := [.inr (.inr (Int64.ofNat 0)), .inr (.inr j298)]) rfl ?_
          exact wLw_law_j2107 hG C hX hE hend a1 a3 k23 H23 _ _ _ _ _ _
        refine s_blk C 1328 2 [0, 1, 2, 3, 4] (pc' := 2107) (lv' := [(0, .inr (.inl (some b))), (1, .inr (.inl (some a1))), (2, .inr (.inl (some (gM G)))), (3, .inr (.inl (some a3))), (4, .inl x4)]) (st' := [.inr (.inr (Int64.ofNat 1)), .inr (.inr j298)]) rfl ?_
        exact wLw_law_j2107 hG C hX hE hend a1 a3 k23 H23 _ _ _ _ _ _
      refine s_blk C 0 0 [0, 1, 2, 3, 4] (pc' := 2113) (lv' := [(0, .inr (.inl (some b))), (1, .inr (.inl (some a1))), (2, .inr (.inl (some (gM G)))), (3, .inr (.inl (some a3))), (4, .inl x4)]) (st' := []) rfl ?_
      exact wLw_law_j2113 hG C hX hE hend a1 a3 k23 H23 _ _ _ _
    refine s_blk C 1319 1 [] (pc' := 2088) (lv' := []) (st' := [.inl 0]) rfl ?_
    exact s_none
  · obtain rfl : (2077 : Int) = off := Option.some.inj hj
    refine ⟨2116, by decide, ?_⟩
    dsimp only [tsl]
    refine s_blk C 1336 5 [0, 1, 2, 3, 4] (pc' := 2122) (lv' := [(0, .inr (.inl (some b))), (1, .inr (.inl (some a1))), (2, .inr (.inl (some (gM G)))), (3, .inr (.inl (some a3))), (4, .inl x4)]) (st' := [.inl (x4 + 1), .inr (.inl (some b)), .inr (.inl (some a1))]) rfl ?_
    refine s_sld C hX 1341 rfl (fun v299 => ?_)
    refine s_blk C 1342 4 [0, 1, 2, 3, 4] (pc' := 2128) (lv' := [(0, .inr (.inl (some b))), (1, .inr (.inl (some a1))), (2, .inr (.inl (some (gM G)))), (3, .inr (.inl (some a3))), (4, .inl x4)]) (st' := [.inl (x4 + 2), .inr (.inl (some b)), .inl v299, .inr (.inl (some a1))]) rfl ?_
    refine s_sld C hX 1346 rfl (fun v300 => ?_)
    refine s_blk C 1347 1 [0, 1, 2, 3, 4] (pc' := 2130) (lv' := [(0, .inr (.inl (some b))), (1, .inr (.inl (some a1))), (2, .inr (.inl (some (gM G)))), (3, .inr (.inl (some a3))), (4, .inl x4)]) (st' := [.inr (.inl (some a3)), .inl v300, .inl v299, .inr (.inl (some a1))]) rfl ?_
    refine s_L hE (st := []) (fun o ho => j_callSW (As := [.inr (.inl (some a1)), .inl v299, .inl v300, .inr (.inl (some a3))]) (st := []) C 1348 rfl mf_Lw_letter ml_L_202 rfl (by decide) (by decide) (Nat.le_refl _) rfl (cLw_letter (CX_tr C) σ M n (some a1) v299 v300 (some a3) o ho)) (fun v301 M302 n303 _ => ?_)
    refine s_blk C 1349 6 [0, 1, 2, 3, 4, 5] (pc' := 2141) (lv' := [(0, .inr (.inl (some b))), (1, .inr (.inl (some a1))), (2, .inr (.inl (some (gM G)))), (3, .inr (.inl (some a3))), (4, .inl x4), (5, .inl v301)]) (st' := [.inl (x4 + 1), .inr (.inl (some b)), .inr (.inl (some (gM G)))]) rfl ?_
    refine s_sld C hX 1355 rfl (fun v304 => ?_)
    refine s_blk C 1356 4 [0, 1, 2, 3, 4, 5] (pc' := 2147) (lv' := [(0, .inr (.inl (some b))), (1, .inr (.inl (some a1))), (2, .inr (.inl (some (gM G)))), (3, .inr (.inl (some a3))), (4, .inl x4), (5, .inl v301)]) (st' := [.inl (x4 + 2), .inr (.inl (some b)), .inl v304, .inr (.inl (some (gM G)))]) rfl ?_
    refine s_sld C hX 1360 rfl (fun v305 => ?_)
    refine s_SI hE (st := []) (fun o ho => j_callV (As := [.inl v304, .inl v305]) (st := []) (b := gM G) C 1361 rfl mf_Md_letter ml_L_204 rfl (recv_M hG C) (by decide) (by decide) (Nat.le_refl _) rfl (cMd_letter (CX_tr C) hG σ M302 n303 v304 v305 o ho)) (fun v306 σ307 => ?_)
    refine s_blk C 1362 2 [0, 1, 2, 3, 4, 5, 6] (pc' := 2154) (lv' := [(0, .inr (.inl (some b))), (1, .inr (.inl (some a1))), (2, .inr (.inl (some (gM G)))), (3, .inr (.inl (some a3))), (4, .inl x4), (5, .inl v301), (6, .inl v306)]) (st' := [.inr (.inl (some (gM G)))]) rfl ?_
    refine s_RI hE (st := []) (fun o ho => j_callV (As := []) (st := []) (b := gM G) C 1364 rfl mf_Md_thrown ml_L_112 rfl (recv_M hG C) (by decide) (by decide) (Nat.le_refl _) rfl (cMd_thrown (CX_tr C) hG σ307 M302 n303 o ho)) (fun v308 => ?_)
    refine s_blk C 1365 1 [0, 1, 2, 3, 4, 5, 6] (pc' := 2159) (lv' := [(0, .inr (.inl (some b))), (1, .inr (.inl (some a1))), (2, .inr (.inl (some (gM G)))), (3, .inr (.inl (some a3))), (4, .inl x4), (5, .inl v301), (6, .inl v306)]) (st' := [.inl v301, .inl v308]) rfl ?_
    refine s_iceq C 1366 rfl (fun _ => ?_) (fun _ => ?_)
    · refine s_blk C 1369 1 [0, 1, 2, 3, 4, 6] (pc' := 2166) (lv' := [(0, .inr (.inl (some b))), (1, .inr (.inl (some a1))), (2, .inr (.inl (some (gM G)))), (3, .inr (.inl (some a3))), (4, .inl x4), (6, .inl v306)]) (st' := [.inl v301]) rfl ?_
      refine s_ine C 1370 rfl (fun _ => ?_) (fun _ => ?_)
      · refine s_blk C 1371 2 [0, 1, 2, 3, 4, 6] (pc' := 2171) (lv' := [(0, .inr (.inl (some b))), (1, .inr (.inl (some a1))), (2, .inr (.inl (some (gM G)))), (3, .inr (.inl (some a3))), (4, .inl x4), (6, .inl v306)]) (st' := [.inl 0, .inr (.inl (some a3))]) rfl ?_
        refine s_ldJ C 1373 rfl (fun j309 => ?_)
        refine s_blk C 1374 2 [0, 1, 2, 3, 4] (pc' := 2175) (lv' := [(0, .inr (.inl (some b))), (1, .inr (.inl (some a1))), (2, .inr (.inl (some (gM G)))), (3, .inr (.inl (some a3))), (4, .inl x4)]) (st' := [.inr (.inr ((v306).toInt64)), .inr (.inr j309)]) rfl ?_
        refine s_lcmp C 1376 rfl ?_
        refine s_ieq C 1377 rfl (fun _ => ?_) (fun _ => ?_)
        · exact wLw_law_j2181 hG C hX hE hend a1 a3 k23 H23 _ _ _ _
        refine s_blk C 1378 1 [] (pc' := 2180) (lv' := []) (st' := [.inl 0]) rfl ?_
        exact s_none
      refine s_blk C 0 0 [0, 1, 2, 3, 4] (pc' := 2181) (lv' := [(0, .inr (.inl (some b))), (1, .inr (.inl (some a1))), (2, .inr (.inl (some (gM G)))), (3, .inr (.inl (some a3))), (4, .inl x4)]) (st' := []) rfl ?_
      exact wLw_law_j2181 hG C hX hE hend a1 a3 k23 H23 _ _ _ _
    refine s_blk C 1367 1 [] (pc' := 2163) (lv' := []) (st' := [.inl 0]) rfl ?_
    exact s_none
  exact absurd (Array.getElem?_eq_some_iff.mp hj).1 (Nat.not_lt.mpr (Nat.le_add_left 28 j))
