set_option maxRecDepth 10000 in
set_option maxHeartbeats 4000000 in
theorem k_302x_87 {By : Int → Int} {Nb : Int} {Sp : PS} (σ0 : SG) (hσ0 : WT σ0) (f : Int32) (h_f : (σ0 159)[8]? = some (.int f)) (k : Int32) (h_k : (σ0 159)[12]? = some (.int k)) (hM : ML By Nb σ0 Sp) (hg : Sp.1 = 0) : ∀ (σ725 : SG) (y728 : Int32) (y732 : Int32), WT σ725 → Fr [(35, 8), (35, 9), (35, 10), (35, 11), (35, 12), (35, 13), (41, 0)] σ0 σ725 → (σ725 159)[12]? = some (.int y728) → 0 ≤ y728.toInt → y728.toInt ≤ 3 → (σ725 159)[8]? = some (.int y732) → 0 ≤ y732.toInt → y732.toInt ≤ 1600 → f.toInt - y732.toInt ≤ 0 → Imp (y728.toInt ≤ 0) (k.toInt ≤ 0) → KF σ0 σ725 → ML By Nb σ725 (gN1 By Nb Sp) → En 9 200 none mr_302 (P_302x σ0 By Nb Sp f k) 87 [(0, .ref 159)] [] σ725 := by
  obtain ⟨hl_f, hu_f⟩ := WT_int hσ0 (g := 35) (by decide +kernel) (by decide +kernel) (l := 0) (u := 1600) (by decide +kernel) h_f
  obtain ⟨hl_k, hu_k⟩ := WT_int hσ0 (g := 35) (by decide +kernel) (by decide +kernel) (l := 0) (u := 3) (by decide +kernel) h_k
  have hF0 : Fr [(35, 8), (35, 9), (35, 10), (35, 11), (35, 12), (35, 13), (41, 0)] σ0 σ0 := Fr_rfl
  have keyj170 := k_302x_170 σ0 hσ0 f h_f k h_k hM hg
  intro σ725 y728 y732 h726 h727 h729 h730 h731 h733 h734 h735 h736 h737 h738 h739
  have h740 := ML_k h739 h729
  have h741 : Imp ((gN1 By Nb Sp).1 = 0) (iW By Nb 2 (gN1 By Nb Sp) = iW By Nb 2 Sp) := gN1_iW
  have h742 : Imp ((gN1 By Nb Sp).1 = 0) (iW By Nb 3 (gN1 By Nb Sp) = iW By Nb 3 Sp) := gN1_iW
  have h743 : Imp ((gN1 By Nb Sp).1 = 0) (iW By Nb 5 (gN1 By Nb Sp) = iW By Nb 5 Sp) := gN1_iW
  have h744 : Imp ((gN1 By Nb Sp).1 = 0) (iW By Nb 1 (gN1 By Nb Sp) = iW By Nb 1 Sp) := gN1_iW
  refine En_Ps 1 (pc' := 88) (lv' := [(0, .ref 159)]) (st' := [.ref 159]) rfl ?_
  refine En_ldcS (i := 2) rfl rfl rfl ?_
  refine En_callV rfl rfl rfl rfl rfl rfl rfl rfl tgz_159 (by decide +kernel) rfl (c_251s2x σ725 h726 h739) (by decide) (by decide) (fun v746 σ747 h745 => ?_)
  obtain ⟨h748, h749, z751, rfl, h750⟩ := h745
  have h752 := h750.2.2
  obtain rfl : σ725 = σ747 := Fr_nil h749
  refine En_iEq _ rfl rfl (fun h753 => ?_) (fun h753 => ?_)
  · refine En_Ps 1 (pc' := 107) (lv' := [(0, .ref 159)]) (st' := [.ref 159]) rfl ?_
    refine En_ldcS (i := 3) rfl rfl rfl ?_
    refine En_callV rfl rfl rfl rfl rfl rfl rfl rfl tgz_159 (by decide +kernel) rfl (c_251s3x σ725 h726 h739) (by decide) (by decide) (fun v755 σ756 h754 => ?_)
    obtain ⟨h757, h758, z760, rfl, h759⟩ := h754
    have h761 := h759.2.2
    obtain rfl : σ725 = σ756 := Fr_nil h758
    refine En_iEq _ rfl rfl (fun h762 => ?_) (fun h762 => ?_)
    · refine En_Ps 1 (pc' := 127) (lv' := [(0, .ref 159)]) (st' := [.ref 159]) rfl ?_
      refine En_ldcS (i := 5) rfl rfl rfl ?_
      refine En_callV rfl rfl rfl rfl rfl rfl rfl rfl tgz_159 (by decide +kernel) rfl (c_251s5x σ725 h726 h739) (by decide) (by decide) (fun v764 σ765 h763 => ?_)
      obtain ⟨h766, h767, z769, rfl, h768⟩ := h763
      have h770 := h768.2.2
      obtain rfl : σ725 = σ765 := Fr_nil h767
      refine En_iEq _ rfl rfl (fun h771 => ?_) (fun h771 => ?_)
      · refine En_Ps 1 (pc' := 146) (lv' := [(0, .ref 159)]) (st' := [.ref 159]) rfl ?_
        refine En_ldcS (i := 1) rfl rfl rfl ?_
        refine En_callV rfl rfl rfl rfl rfl rfl rfl rfl tgz_159 (by decide +kernel) rfl (c_251s1x σ725 h726 h739) (by decide) (by decide) (fun v773 σ774 h772 => ?_)
        obtain ⟨h775, h776, z778, rfl, h777⟩ := h772
        have h779 := h777.2.2
        obtain rfl : σ725 = σ774 := Fr_nil h776
        refine En_iEq _ rfl rfl (fun h780 => ?_) (fun h780 => ?_)
        · obtain ⟨z782, h781, h783, h784⟩ := WT_peekI h726 tgz_165 (by decide +kernel : FT 41 (2 : Int).toNat = (0, 0, 4)) (by decide +kernel)
          obtain ⟨z786, h785, h787, h788⟩ := WT_peekI h726 tgz_165 (by decide +kernel : FT 41 (3 : Int).toNat = (0, 0, 12)) (by decide +kernel)
          obtain ⟨z790, h789, h791, h792⟩ := WT_peekI h726 tgz_165 (by decide +kernel : FT 41 (4 : Int).toNat = (0, 0, 4)) (by decide +kernel)
          obtain ⟨z794, h793, h795, h796⟩ := WT_peekI h726 tgz_165 (by decide +kernel : FT 41 (5 : Int).toNat = (0, 0, 6)) (by decide +kernel)
          exact keyj170 σ725 z782 z786 z790 z794 y728 y732 h726 h727 h781 (by omega) (by omega) h785 (by omega) (by omega) h789 (by omega) (by omega) h793 (by omega) (by omega) h729 (by omega) (by omega) h733 (by omega) (by omega) (by omega) (fun _ => by have := Imp_m h737 (by omega); omega) (fun hh => by have := Imp_m h737 (by omega); have zz : (gN1 By Nb Sp).1 = 0 := (by omega); have j1 := Imp_m h741 zz; have j2 := Imp_m h742 zz; have j3 := Imp_m h743 zz; have j4 := Imp_m h744 zz; omega) (fun hh => by have := Imp_m h737 (by omega); have zz : (gN1 By Nb Sp).1 = 0 := (by omega); have j1 := Imp_m h741 zz; have j2 := Imp_m h742 zz; have j3 := Imp_m h743 zz; have j4 := Imp_m h744 zz; omega) (fun hh => by have := Imp_m h737 (by omega); have zz : (gN1 By Nb Sp).1 = 0 := (by omega); have j1 := Imp_m h741 zz; have j2 := Imp_m h742 zz; have j3 := Imp_m h743 zz; have j4 := Imp_m h744 zz; omega) (fun hh => by have := Imp_m h737 (by omega); have zz : (gN1 By Nb Sp).1 = 0 := (by omega); have j1 := Imp_m h741 zz; have j2 := Imp_m h742 zz; have j3 := Imp_m h743 zz; have j4 := Imp_m h744 zz; omega) (h738) (ML_eq h739 (gN2_neg (by omega)).symm)
        · refine En_Ps 1 (pc' := 155) (lv' := [(0, .ref 159)]) (st' := [.ref 159]) rfl ?_
          refine En_getU (j := 14) (u := 165) (g' := 41) (q := 0) rfl rfl rfl tgz_159 (by decide +kernel) h726 (by decide +kernel) (by decide +kernel) (fun h797 => ?_)
          refine En_Ps 1 (pc' := 159) (lv' := [(0, .ref 159)]) (st' := [.int ((Int32.ofInt 5)), .ref 165]) rfl ?_
          refine En_iald (l := 0) (u := 6) rfl (by decide : (Int32.ofInt 5).toInt = 5) tgz_165 (by decide +kernel) h726 (by omega) (lnI (by decide +kernel : LN _ = 226) (by omega)) (by decide +kernel) (fun z800 h799 h801 h802 => ?_)
          have h804 : (gN1 By Nb Sp).1 = 0 := iW_g (i := 1) (B := By) (n := Nb) (by omega)
          have h803 : (gN1 By Nb Sp).2.2.2 5 = z800.toInt := ML_wi h739 h804 h799 (by omega) (by omega) (by omega)
          refine En_Ps 1 (pc' := 162) (lv' := [(0, .ref 159)]) (st' := [.int (((Int8.ofInt 6).toInt32)), .int z800]) rfl ?_
          refine En_icNe _ rfl (by decide : ((Int8.ofInt 6).toInt32).toInt = 6) rfl (fun h805 => ?_) (fun h805 => ?_)
          · obtain ⟨z807, h806, h808, h809⟩ := WT_peekI h726 tgz_165 (by decide +kernel : FT 41 (2 : Int).toNat = (0, 0, 4)) (by decide +kernel)
            obtain ⟨z811, h810, h812, h813⟩ := WT_peekI h726 tgz_165 (by decide +kernel : FT 41 (3 : Int).toNat = (0, 0, 12)) (by decide +kernel)
            obtain ⟨z815, h814, h816, h817⟩ := WT_peekI h726 tgz_165 (by decide +kernel : FT 41 (4 : Int).toNat = (0, 0, 4)) (by decide +kernel)
            exact keyj170 σ725 z807 z811 z815 z800 y728 y732 h726 h727 h806 (by omega) (by omega) h810 (by omega) (by omega) h814 (by omega) (by omega) h799 (by omega) (by omega) h729 (by omega) (by omega) h733 (by omega) (by omega) (by omega) (fun _ => by have := Imp_m h737 (by omega); omega) (fun hh => by have := Imp_m h737 (by omega); have zz : (gN1 By Nb Sp).1 = 0 := (by omega); have j1 := Imp_m h741 zz; have j2 := Imp_m h742 zz; have j3 := Imp_m h743 zz; have j4 := Imp_m h744 zz; omega) (fun hh => by have := Imp_m h737 (by omega); have zz : (gN1 By Nb Sp).1 = 0 := (by omega); have j1 := Imp_m h741 zz; have j2 := Imp_m h742 zz; have j3 := Imp_m h743 zz; have j4 := Imp_m h744 zz; omega) (fun hh => by have := Imp_m h737 (by omega); have zz : (gN1 By Nb Sp).1 = 0 := (by omega); have j1 := Imp_m h741 zz; have j2 := Imp_m h742 zz; have j3 := Imp_m h743 zz; have j4 := Imp_m h744 zz; omega) (fun hh => by have zz : (gN1 By Nb Sp).1 = 0 := (by omega); have j1 := Imp_m h741 zz; have j2 := Imp_m h742 zz; have j3 := Imp_m h743 zz; have j4 := Imp_m h744 zz; omega) (h738) (ML_eq h739 (gN2_neg (by omega)).symm)
          · refine En_Ps 2 (pc' := 167) (lv' := [(0, .ref 159)]) (st' := [.int ((Int32.ofInt 3)), .ref 159]) rfl ?_
            have := (by decide : ((Int32.ofInt 3)).toInt = 3)
            refine En_callV rfl rfl rfl rfl rfl rfl rfl rfl tgz_159 (by decide +kernel) rfl (c_223x σ725 h726 ((Int32.ofInt 3)) (geI (by decide : (Int32.ofInt 3).toInt = 3) (by omega)) (leI (by decide : (Int32.ofInt 3).toInt = 3) (by omega)) y728 h729 h739) (by decide) (by decide) (fun v819 σ820 h818 => ?_)
            obtain ⟨h821, h822, z824, h825, rfl, h823⟩ := h818
            have h826 := h823.2.2.2.2
            have h827 := Fr_trans h727 h822 (by decide +kernel)
            have h828 := KF_fr h738 h822 (by decide +kernel)
            obtain ⟨S829, h830⟩ : ∃ q : PS, q = err By Nb 3 (gN1 By Nb Sp) := ⟨_, rfl⟩
            have h831 : ML By Nb σ820 S829 := by rw [h830]; exact (ML_eq h826 (err_cg (by omega)))
            have h832 := ML_k h831 h825
            have h833 : S829.2.2.2 = (gN1 By Nb Sp).2.2.2 := by rw [h830]; exact err_w
            obtain ⟨z835, h834, h836, h837⟩ := WT_peekI h821 tgz_165 (by decide +kernel : FT 41 (2 : Int).toNat = (0, 0, 4)) (by decide +kernel)
            obtain ⟨z839, h838, h840, h841⟩ := WT_peekI h821 tgz_165 (by decide +kernel : FT 41 (3 : Int).toNat = (0, 0, 12)) (by decide +kernel)
            obtain ⟨z843, h842, h844, h845⟩ := WT_peekI h821 tgz_165 (by decide +kernel : FT 41 (4 : Int).toNat = (0, 0, 4)) (by decide +kernel)
            exact keyj170 σ820 z835 z839 z843 z800 z824 y732 h821 h827 h834 (by omega) (by omega) h838 (by omega) (by omega) h842 (by omega) (by omega) ((h822 _ _ (inWa tgz_165 (by decide +kernel))).trans h799) (by omega) (by omega) h825 (by omega) (by omega) ((h822 _ _ (inW tgz_159 (by decide +kernel))).trans h733) (by omega) (by omega) (by omega) (fun _ => by have := Imp_m h737 (by omega); omega) (fun _ => by have := Imp_m h737 (by omega); omega) (fun _ => by have := Imp_m h737 (by omega); omega) (fun _ => by have := Imp_m h737 (by omega); omega) (fun _ => by have := Imp_m h737 (by omega); omega) (h828) (ML_eq h831 (by subst h830; exact (gN2_pos (by omega)).symm))
      · refine En_Ps 1 (pc' := 136) (lv' := [(0, .ref 159)]) (st' := [.ref 159]) rfl ?_
        refine En_getU (j := 14) (u := 165) (g' := 41) (q := 0) rfl rfl rfl tgz_159 (by decide +kernel) h726 (by decide +kernel) (by decide +kernel) (fun h846 => ?_)
        refine En_Ps 1 (pc' := 140) (lv' := [(0, .ref 159)]) (st' := [.int ((Int32.ofInt 4)), .ref 165]) rfl ?_
        refine En_iald (l := 0) (u := 4) rfl (by decide : (Int32.ofInt 4).toInt = 4) tgz_165 (by decide +kernel) h726 (by omega) (lnI (by decide +kernel : LN _ = 226) (by omega)) (by decide +kernel) (fun z849 h848 h850 h851 => ?_)
        have h853 : (gN1 By Nb Sp).1 = 0 := iW_g (i := 5) (B := By) (n := Nb) (by omega)
        have h852 : (gN1 By Nb Sp).2.2.2 4 = z849.toInt := ML_wi h739 h853 h848 (by omega) (by omega) (by omega)
        refine En_Ps 1 (pc' := 142) (lv' := [(0, .ref 159)]) (st' := [.int ((Int32.ofInt 4)), .int z849]) rfl ?_
        refine En_icEq _ rfl (by decide : (Int32.ofInt 4).toInt = 4) rfl (fun h854 => ?_) (fun h854 => ?_)
        · refine En_Ps 2 (pc' := 167) (lv' := [(0, .ref 159)]) (st' := [.int ((Int32.ofInt 3)), .ref 159]) rfl ?_
          have := (by decide : ((Int32.ofInt 3)).toInt = 3)
          refine En_callV rfl rfl rfl rfl rfl rfl rfl rfl tgz_159 (by decide +kernel) rfl (c_223x σ725 h726 ((Int32.ofInt 3)) (geI (by decide : (Int32.ofInt 3).toInt = 3) (by omega)) (leI (by decide : (Int32.ofInt 3).toInt = 3) (by omega)) y728 h729 h739) (by decide) (by decide) (fun v856 σ857 h855 => ?_)
          obtain ⟨h858, h859, z861, h862, rfl, h860⟩ := h855
          have h863 := h860.2.2.2.2
          have h864 := Fr_trans h727 h859 (by decide +kernel)
          have h865 := KF_fr h738 h859 (by decide +kernel)
          obtain ⟨S866, h867⟩ : ∃ q : PS, q = err By Nb 3 (gN1 By Nb Sp) := ⟨_, rfl⟩
          have h868 : ML By Nb σ857 S866 := by rw [h867]; exact (ML_eq h863 (err_cg (by omega)))
          have h869 := ML_k h868 h862
          have h870 : S866.2.2.2 = (gN1 By Nb Sp).2.2.2 := by rw [h867]; exact err_w
          obtain ⟨z872, h871, h873, h874⟩ := WT_peekI h858 tgz_165 (by decide +kernel : FT 41 (2 : Int).toNat = (0, 0, 4)) (by decide +kernel)
          obtain ⟨z876, h875, h877, h878⟩ := WT_peekI h858 tgz_165 (by decide +kernel : FT 41 (3 : Int).toNat = (0, 0, 12)) (by decide +kernel)
          obtain ⟨z880, h879, h881, h882⟩ := WT_peekI h858 tgz_165 (by decide +kernel : FT 41 (5 : Int).toNat = (0, 0, 6)) (by decide +kernel)
          exact keyj170 σ857 z872 z876 z849 z880 z861 y732 h858 h864 h871 (by omega) (by omega) h875 (by omega) (by omega) ((h859 _ _ (inWa tgz_165 (by decide +kernel))).trans h848) (by omega) (by omega) h879 (by omega) (by omega) h862 (by omega) (by omega) ((h859 _ _ (inW tgz_159 (by decide +kernel))).trans h733) (by omega) (by omega) (by omega) (fun _ => by have := Imp_m h737 (by omega); omega) (fun _ => by have := Imp_m h737 (by omega); omega) (fun _ => by have := Imp_m h737 (by omega); omega) (fun _ => by have := Imp_m h737 (by omega); omega) (fun _ => by have := Imp_m h737 (by omega); omega) (h865) (ML_eq h868 (by subst h867; exact (gN2_pos (by omega)).symm))
        · refine En_Ps 1 (pc' := 146) (lv' := [(0, .ref 159)]) (st' := [.ref 159]) rfl ?_
          refine En_ldcS (i := 1) rfl rfl rfl ?_
          refine En_callV rfl rfl rfl rfl rfl rfl rfl rfl tgz_159 (by decide +kernel) rfl (c_251s1x σ725 h726 h739) (by decide) (by decide) (fun v884 σ885 h883 => ?_)
          obtain ⟨h886, h887, z889, rfl, h888⟩ := h883
          have h890 := h888.2.2
          obtain rfl : σ725 = σ885 := Fr_nil h887
          refine En_iEq _ rfl rfl (fun h891 => ?_) (fun h891 => ?_)
          · obtain ⟨z893, h892, h894, h895⟩ := WT_peekI h726 tgz_165 (by decide +kernel : FT 41 (2 : Int).toNat = (0, 0, 4)) (by decide +kernel)
            obtain ⟨z897, h896, h898, h899⟩ := WT_peekI h726 tgz_165 (by decide +kernel : FT 41 (3 : Int).toNat = (0, 0, 12)) (by decide +kernel)
            obtain ⟨z901, h900, h902, h903⟩ := WT_peekI h726 tgz_165 (by decide +kernel : FT 41 (5 : Int).toNat = (0, 0, 6)) (by decide +kernel)
            exact keyj170 σ725 z893 z897 z849 z901 y728 y732 h726 h727 h892 (by omega) (by omega) h896 (by omega) (by omega) h848 (by omega) (by omega) h900 (by omega) (by omega) h729 (by omega) (by omega) h733 (by omega) (by omega) (by omega) (fun _ => by have := Imp_m h737 (by omega); omega) (fun hh => by have := Imp_m h737 (by omega); have zz : (gN1 By Nb Sp).1 = 0 := (by omega); have j1 := Imp_m h741 zz; have j2 := Imp_m h742 zz; have j3 := Imp_m h743 zz; have j4 := Imp_m h744 zz; omega) (fun hh => by have := Imp_m h737 (by omega); have zz : (gN1 By Nb Sp).1 = 0 := (by omega); have j1 := Imp_m h741 zz; have j2 := Imp_m h742 zz; have j3 := Imp_m h743 zz; have j4 := Imp_m h744 zz; omega) (fun hh => by have zz : (gN1 By Nb Sp).1 = 0 := (by omega); have j1 := Imp_m h741 zz; have j2 := Imp_m h742 zz; have j3 := Imp_m h743 zz; have j4 := Imp_m h744 zz; omega) (fun hh => by have := Imp_m h737 (by omega); have zz : (gN1 By Nb Sp).1 = 0 := (by omega); have j1 := Imp_m h741 zz; have j2 := Imp_m h742 zz; have j3 := Imp_m h743 zz; have j4 := Imp_m h744 zz; omega) (h738) (ML_eq h739 (gN2_neg (by omega)).symm)
          · refine En_Ps 1 (pc' := 155) (lv' := [(0, .ref 159)]) (st' := [.ref 159]) rfl ?_
            refine En_getK (j := 14) h846 rfl rfl rfl tgz_159 (by decide +kernel) ?_
            refine En_Ps 1 (pc' := 159) (lv' := [(0, .ref 159)]) (st' := [.int ((Int32.ofInt 5)), .ref 165]) rfl ?_
            refine En_iald (l := 0) (u := 6) rfl (by decide : (Int32.ofInt 5).toInt = 5) tgz_165 (by decide +kernel) h726 (by omega) (lnI (by decide +kernel : LN _ = 226) (by omega)) (by decide +kernel) (fun z905 h904 h906 h907 => ?_)
            have h909 : (gN1 By Nb Sp).1 = 0 := iW_g (i := 1) (B := By) (n := Nb) (by omega)
            have h908 : (gN1 By Nb Sp).2.2.2 5 = z905.toInt := ML_wi h739 h909 h904 (by omega) (by omega) (by omega)
            refine En_Ps 1 (pc' := 162) (lv' := [(0, .ref 159)]) (st' := [.int (((Int8.ofInt 6).toInt32)), .int z905]) rfl ?_
            refine En_icNe _ rfl (by decide : ((Int8.ofInt 6).toInt32).toInt = 6) rfl (fun h910 => ?_) (fun h910 => ?_)
            · obtain ⟨z912, h911, h913, h914⟩ := WT_peekI h726 tgz_165 (by decide +kernel : FT 41 (2 : Int).toNat = (0, 0, 4)) (by decide +kernel)
              obtain ⟨z916, h915, h917, h918⟩ := WT_peekI h726 tgz_165 (by decide +kernel : FT 41 (3 : Int).toNat = (0, 0, 12)) (by decide +kernel)
              exact keyj170 σ725 z912 z916 z849 z905 y728 y732 h726 h727 h911 (by omega) (by omega) h915 (by omega) (by omega) h848 (by omega) (by omega) h904 (by omega) (by omega) h729 (by omega) (by omega) h733 (by omega) (by omega) (by omega) (fun _ => by have := Imp_m h737 (by omega); omega) (fun hh => by have := Imp_m h737 (by omega); have zz : (gN1 By Nb Sp).1 = 0 := (by omega); have j1 := Imp_m h741 zz; have j2 := Imp_m h742 zz; have j3 := Imp_m h743 zz; have j4 := Imp_m h744 zz; omega) (fun hh => by have := Imp_m h737 (by omega); have zz : (gN1 By Nb Sp).1 = 0 := (by omega); have j1 := Imp_m h741 zz; have j2 := Imp_m h742 zz; have j3 := Imp_m h743 zz; have j4 := Imp_m h744 zz; omega) (fun hh => by have zz : (gN1 By Nb Sp).1 = 0 := (by omega); have j1 := Imp_m h741 zz; have j2 := Imp_m h742 zz; have j3 := Imp_m h743 zz; have j4 := Imp_m h744 zz; omega) (fun hh => by have zz : (gN1 By Nb Sp).1 = 0 := (by omega); have j1 := Imp_m h741 zz; have j2 := Imp_m h742 zz; have j3 := Imp_m h743 zz; have j4 := Imp_m h744 zz; omega) (h738) (ML_eq h739 (gN2_neg (by omega)).symm)
            · refine En_Ps 2 (pc' := 167) (lv' := [(0, .ref 159)]) (st' := [.int ((Int32.ofInt 3)), .ref 159]) rfl ?_
              have := (by decide : ((Int32.ofInt 3)).toInt = 3)
              refine En_callV rfl rfl rfl rfl rfl rfl rfl rfl tgz_159 (by decide +kernel) rfl (c_223x σ725 h726 ((Int32.ofInt 3)) (geI (by decide : (Int32.ofInt 3).toInt = 3) (by omega)) (leI (by decide : (Int32.ofInt 3).toInt = 3) (by omega)) y728 h729 h739) (by decide) (by decide) (fun v920 σ921 h919 => ?_)
              obtain ⟨h922, h923, z925, h926, rfl, h924⟩ := h919
              have h927 := h924.2.2.2.2
              have h928 := Fr_trans h727 h923 (by decide +kernel)
              have h929 := KF_fr h738 h923 (by decide +kernel)
              obtain ⟨S930, h931⟩ : ∃ q : PS, q = err By Nb 3 (gN1 By Nb Sp) := ⟨_, rfl⟩
              have h932 : ML By Nb σ921 S930 := by rw [h931]; exact (ML_eq h927 (err_cg (by omega)))
              have h933 := ML_k h932 h926
              have h934 : S930.2.2.2 = (gN1 By Nb Sp).2.2.2 := by rw [h931]; exact err_w
              obtain ⟨z936, h935, h937, h938⟩ := WT_peekI h922 tgz_165 (by decide +kernel : FT 41 (2 : Int).toNat = (0, 0, 4)) (by decide +kernel)
              obtain ⟨z940, h939, h941, h942⟩ := WT_peekI h922 tgz_165 (by decide +kernel : FT 41 (3 : Int).toNat = (0, 0, 12)) (by decide +kernel)
              exact keyj170 σ921 z936 z940 z849 z905 z925 y732 h922 h928 h935 (by omega) (by omega) h939 (by omega) (by omega) ((h923 _ _ (inWa tgz_165 (by decide +kernel))).trans h848) (by omega) (by omega) ((h923 _ _ (inWa tgz_165 (by decide +kernel))).trans h904) (by omega) (by omega) h926 (by omega) (by omega) ((h923 _ _ (inW tgz_159 (by decide +kernel))).trans h733) (by omega) (by omega) (by omega) (fun _ => by have := Imp_m h737 (by omega); omega) (fun _ => by have := Imp_m h737 (by omega); omega) (fun _ => by have := Imp_m h737 (by omega); omega) (fun _ => by omega) (fun _ => by have := Imp_m h737 (by omega); omega) (h929) (ML_eq h932 (by subst h931; exact (gN2_pos (by omega)).symm))
    · refine En_Ps 1 (pc' := 116) (lv' := [(0, .ref 159)]) (st' := [.ref 159]) rfl ?_
      refine En_getU (j := 14) (u := 165) (g' := 41) (q := 0) rfl rfl rfl tgz_159 (by decide +kernel) h726 (by decide +kernel) (by decide +kernel) (fun h943 => ?_)
      refine En_Ps 1 (pc' := 120) (lv' := [(0, .ref 159)]) (st' := [.int ((Int32.ofInt 3)), .ref 165]) rfl ?_
      refine En_iald (l := 0) (u := 12) rfl (by decide : (Int32.ofInt 3).toInt = 3) tgz_165 (by decide +kernel) h726 (by omega) (lnI (by decide +kernel : LN _ = 226) (by omega)) (by decide +kernel) (fun z946 h945 h947 h948 => ?_)
      have h950 : (gN1 By Nb Sp).1 = 0 := iW_g (i := 3) (B := By) (n := Nb) (by omega)
      have h949 : (gN1 By Nb Sp).2.2.2 3 = z946.toInt := ML_wi h739 h950 h945 (by omega) (by omega) (by omega)
      refine En_Ps 1 (pc' := 123) (lv' := [(0, .ref 159)]) (st' := [.int (((Int8.ofInt 12).toInt32)), .int z946]) rfl ?_
      refine En_icEq _ rfl (by decide : ((Int8.ofInt 12).toInt32).toInt = 12) rfl (fun h951 => ?_) (fun h951 => ?_)
      · refine En_Ps 2 (pc' := 167) (lv' := [(0, .ref 159)]) (st' := [.int ((Int32.ofInt 3)), .ref 159]) rfl ?_
        have := (by decide : ((Int32.ofInt 3)).toInt = 3)
        refine En_callV rfl rfl rfl rfl rfl rfl rfl rfl tgz_159 (by decide +kernel) rfl (c_223x σ725 h726 ((Int32.ofInt 3)) (geI (by decide : (Int32.ofInt 3).toInt = 3) (by omega)) (leI (by decide : (Int32.ofInt 3).toInt = 3) (by omega)) y728 h729 h739) (by decide) (by decide) (fun v953 σ954 h952 => ?_)
        obtain ⟨h955, h956, z958, h959, rfl, h957⟩ := h952
        have h960 := h957.2.2.2.2
        have h961 := Fr_trans h727 h956 (by decide +kernel)
        have h962 := KF_fr h738 h956 (by decide +kernel)
        obtain ⟨S963, h964⟩ : ∃ q : PS, q = err By Nb 3 (gN1 By Nb Sp) := ⟨_, rfl⟩
        have h965 : ML By Nb σ954 S963 := by rw [h964]; exact (ML_eq h960 (err_cg (by omega)))
        have h966 := ML_k h965 h959
        have h967 : S963.2.2.2 = (gN1 By Nb Sp).2.2.2 := by rw [h964]; exact err_w
        obtain ⟨z969, h968, h970, h971⟩ := WT_peekI h955 tgz_165 (by decide +kernel : FT 41 (2 : Int).toNat = (0, 0, 4)) (by decide +kernel)
        obtain ⟨z973, h972, h974, h975⟩ := WT_peekI h955 tgz_165 (by decide +kernel : FT 41 (4 : Int).toNat = (0, 0, 4)) (by decide +kernel)
        obtain ⟨z977, h976, h978, h979⟩ := WT_peekI h955 tgz_165 (by decide +kernel : FT 41 (5 : Int).toNat = (0, 0, 6)) (by decide +kernel)
        exact keyj170 σ954 z969 z946 z973 z977 z958 y732 h955 h961 h968 (by omega) (by omega) ((h956 _ _ (inWa tgz_165 (by decide +kernel))).trans h945) (by omega) (by omega) h972 (by omega) (by omega) h976 (by omega) (by omega) h959 (by omega) (by omega) ((h956 _ _ (inW tgz_159 (by decide +kernel))).trans h733) (by omega) (by omega) (by omega) (fun _ => by have := Imp_m h737 (by omega); omega) (fun _ => by have := Imp_m h737 (by omega); omega) (fun _ => by have := Imp_m h737 (by omega); omega) (fun _ => by have := Imp_m h737 (by omega); omega) (fun _ => by have := Imp_m h737 (by omega); omega) (h962) (ML_eq h965 (by subst h964; exact (gN2_pos (by omega)).symm))
      · refine En_Ps 1 (pc' := 127) (lv' := [(0, .ref 159)]) (st' := [.ref 159]) rfl ?_
        refine En_ldcS (i := 5) rfl rfl rfl ?_
        refine En_callV rfl rfl rfl rfl rfl rfl rfl rfl tgz_159 (by decide +kernel) rfl (c_251s5x σ725 h726 h739) (by decide) (by decide) (fun v981 σ982 h980 => ?_)
        obtain ⟨h983, h984, z986, rfl, h985⟩ := h980
        have h987 := h985.2.2
        obtain rfl : σ725 = σ982 := Fr_nil h984
        refine En_iEq _ rfl rfl (fun h988 => ?_) (fun h988 => ?_)
        · refine En_Ps 1 (pc' := 146) (lv' := [(0, .ref 159)]) (st' := [.ref 159]) rfl ?_
          refine En_ldcS (i := 1) rfl rfl rfl ?_
          refine En_callV rfl rfl rfl rfl rfl rfl rfl rfl tgz_159 (by decide +kernel) rfl (c_251s1x σ725 h726 h739) (by decide) (by decide) (fun v990 σ991 h989 => ?_)
          obtain ⟨h992, h993, z995, rfl, h994⟩ := h989
          have h996 := h994.2.2
          obtain rfl : σ725 = σ991 := Fr_nil h993
          refine En_iEq _ rfl rfl (fun h997 => ?_) (fun h997 => ?_)
          · obtain ⟨z999, h998, h1000, h1001⟩ := WT_peekI h726 tgz_165 (by decide +kernel : FT 41 (2 : Int).toNat = (0, 0, 4)) (by decide +kernel)
            obtain ⟨z1003, h1002, h1004, h1005⟩ := WT_peekI h726 tgz_165 (by decide +kernel : FT 41 (4 : Int).toNat = (0, 0, 4)) (by decide +kernel)
            obtain ⟨z1007, h1006, h1008, h1009⟩ := WT_peekI h726 tgz_165 (by decide +kernel : FT 41 (5 : Int).toNat = (0, 0, 6)) (by decide +kernel)
            exact keyj170 σ725 z999 z946 z1003 z1007 y728 y732 h726 h727 h998 (by omega) (by omega) h945 (by omega) (by omega) h1002 (by omega) (by omega) h1006 (by omega) (by omega) h729 (by omega) (by omega) h733 (by omega) (by omega) (by omega) (fun _ => by have := Imp_m h737 (by omega); omega) (fun hh => by have := Imp_m h737 (by omega); have zz : (gN1 By Nb Sp).1 = 0 := (by omega); have j1 := Imp_m h741 zz; have j2 := Imp_m h742 zz; have j3 := Imp_m h743 zz; have j4 := Imp_m h744 zz; omega) (fun hh => by have zz : (gN1 By Nb Sp).1 = 0 := (by omega); have j1 := Imp_m h741 zz; have j2 := Imp_m h742 zz; have j3 := Imp_m h743 zz; have j4 := Imp_m h744 zz; omega) (fun hh => by have := Imp_m h737 (by omega); have zz : (gN1 By Nb Sp).1 = 0 := (by omega); have j1 := Imp_m h741 zz; have j2 := Imp_m h742 zz; have j3 := Imp_m h743 zz; have j4 := Imp_m h744 zz; omega) (fun hh => by have := Imp_m h737 (by omega); have zz : (gN1 By Nb Sp).1 = 0 := (by omega); have j1 := Imp_m h741 zz; have j2 := Imp_m h742 zz; have j3 := Imp_m h743 zz; have j4 := Imp_m h744 zz; omega) (h738) (ML_eq h739 (gN2_neg (by omega)).symm)
          · refine En_Ps 1 (pc' := 155) (lv' := [(0, .ref 159)]) (st' := [.ref 159]) rfl ?_
            refine En_getK (j := 14) h943 rfl rfl rfl tgz_159 (by decide +kernel) ?_
            refine En_Ps 1 (pc' := 159) (lv' := [(0, .ref 159)]) (st' := [.int ((Int32.ofInt 5)), .ref 165]) rfl ?_
            refine En_iald (l := 0) (u := 6) rfl (by decide : (Int32.ofInt 5).toInt = 5) tgz_165 (by decide +kernel) h726 (by omega) (lnI (by decide +kernel : LN _ = 226) (by omega)) (by decide +kernel) (fun z1011 h1010 h1012 h1013 => ?_)
            have h1015 : (gN1 By Nb Sp).1 = 0 := iW_g (i := 1) (B := By) (n := Nb) (by omega)
            have h1014 : (gN1 By Nb Sp).2.2.2 5 = z1011.toInt := ML_wi h739 h1015 h1010 (by omega) (by omega) (by omega)
            refine En_Ps 1 (pc' := 162) (lv' := [(0, .ref 159)]) (st' := [.int (((Int8.ofInt 6).toInt32)), .int z1011]) rfl ?_
            refine En_icNe _ rfl (by decide : ((Int8.ofInt 6).toInt32).toInt = 6) rfl (fun h1016 => ?_) (fun h1016 => ?_)
            · obtain ⟨z1018, h1017, h1019, h1020⟩ := WT_peekI h726 tgz_165 (by decide +kernel : FT 41 (2 : Int).toNat = (0, 0, 4)) (by decide +kernel)
              obtain ⟨z1022, h1021, h1023, h1024⟩ := WT_peekI h726 tgz_165 (by decide +kernel : FT 41 (4 : Int).toNat = (0, 0, 4)) (by decide +kernel)
              exact keyj170 σ725 z1018 z946 z1022 z1011 y728 y732 h726 h727 h1017 (by omega) (by omega) h945 (by omega) (by omega) h1021 (by omega) (by omega) h1010 (by omega) (by omega) h729 (by omega) (by omega) h733 (by omega) (by omega) (by omega) (fun _ => by have := Imp_m h737 (by omega); omega) (fun hh => by have := Imp_m h737 (by omega); have zz : (gN1 By Nb Sp).1 = 0 := (by omega); have j1 := Imp_m h741 zz; have j2 := Imp_m h742 zz; have j3 := Imp_m h743 zz; have j4 := Imp_m h744 zz; omega) (fun hh => by have zz : (gN1 By Nb Sp).1 = 0 := (by omega); have j1 := Imp_m h741 zz; have j2 := Imp_m h742 zz; have j3 := Imp_m h743 zz; have j4 := Imp_m h744 zz; omega) (fun hh => by have := Imp_m h737 (by omega); have zz : (gN1 By Nb Sp).1 = 0 := (by omega); have j1 := Imp_m h741 zz; have j2 := Imp_m h742 zz; have j3 := Imp_m h743 zz; have j4 := Imp_m h744 zz; omega) (fun hh => by have zz : (gN1 By Nb Sp).1 = 0 := (by omega); have j1 := Imp_m h741 zz; have j2 := Imp_m h742 zz; have j3 := Imp_m h743 zz; have j4 := Imp_m h744 zz; omega) (h738) (ML_eq h739 (gN2_neg (by omega)).symm)
            · refine En_Ps 2 (pc' := 167) (lv' := [(0, .ref 159)]) (st' := [.int ((Int32.ofInt 3)), .ref 159]) rfl ?_
              have := (by decide : ((Int32.ofInt 3)).toInt = 3)
              refine En_callV rfl rfl rfl rfl rfl rfl rfl rfl tgz_159 (by decide +kernel) rfl (c_223x σ725 h726 ((Int32.ofInt 3)) (geI (by decide : (Int32.ofInt 3).toInt = 3) (by omega)) (leI (by decide : (Int32.ofInt 3).toInt = 3) (by omega)) y728 h729 h739) (by decide) (by decide) (fun v1026 σ1027 h1025 => ?_)
              obtain ⟨h1028, h1029, z1031, h1032, rfl, h1030⟩ := h1025
              have h1033 := h1030.2.2.2.2
              have h1034 := Fr_trans h727 h1029 (by decide +kernel)
              have h1035 := KF_fr h738 h1029 (by decide +kernel)
              obtain ⟨S1036, h1037⟩ : ∃ q : PS, q = err By Nb 3 (gN1 By Nb Sp) := ⟨_, rfl⟩
              have h1038 : ML By Nb σ1027 S1036 := by rw [h1037]; exact (ML_eq h1033 (err_cg (by omega)))
              have h1039 := ML_k h1038 h1032
              have h1040 : S1036.2.2.2 = (gN1 By Nb Sp).2.2.2 := by rw [h1037]; exact err_w
              obtain ⟨z1042, h1041, h1043, h1044⟩ := WT_peekI h1028 tgz_165 (by decide +kernel : FT 41 (2 : Int).toNat = (0, 0, 4)) (by decide +kernel)
              obtain ⟨z1046, h1045, h1047, h1048⟩ := WT_peekI h1028 tgz_165 (by decide +kernel : FT 41 (4 : Int).toNat = (0, 0, 4)) (by decide +kernel)
              exact keyj170 σ1027 z1042 z946 z1046 z1011 z1031 y732 h1028 h1034 h1041 (by omega) (by omega) ((h1029 _ _ (inWa tgz_165 (by decide +kernel))).trans h945) (by omega) (by omega) h1045 (by omega) (by omega) ((h1029 _ _ (inWa tgz_165 (by decide +kernel))).trans h1010) (by omega) (by omega) h1032 (by omega) (by omega) ((h1029 _ _ (inW tgz_159 (by decide +kernel))).trans h733) (by omega) (by omega) (by omega) (fun _ => by have := Imp_m h737 (by omega); omega) (fun _ => by have := Imp_m h737 (by omega); omega) (fun _ => by omega) (fun _ => by have := Imp_m h737 (by omega); omega) (fun _ => by have := Imp_m h737 (by omega); omega) (h1035) (ML_eq h1038 (by subst h1037; exact (gN2_pos (by omega)).symm))
        · refine En_Ps 1 (pc' := 136) (lv' := [(0, .ref 159)]) (st' := [.ref 159]) rfl ?_
          refine En_getK (j := 14) h943 rfl rfl rfl tgz_159 (by decide +kernel) ?_
          refine En_Ps 1 (pc' := 140) (lv' := [(0, .ref 159)]) (st' := [.int ((Int32.ofInt 4)), .ref 165]) rfl ?_
          refine En_iald (l := 0) (u := 4) rfl (by decide : (Int32.ofInt 4).toInt = 4) tgz_165 (by decide +kernel) h726 (by omega) (lnI (by decide +kernel : LN _ = 226) (by omega)) (by decide +kernel) (fun z1050 h1049 h1051 h1052 => ?_)
          have h1054 : (gN1 By Nb Sp).1 = 0 := iW_g (i := 5) (B := By) (n := Nb) (by omega)
          have h1053 : (gN1 By Nb Sp).2.2.2 4 = z1050.toInt := ML_wi h739 h1054 h1049 (by omega) (by omega) (by omega)
          refine En_Ps 1 (pc' := 142) (lv' := [(0, .ref 159)]) (st' := [.int ((Int32.ofInt 4)), .int z1050]) rfl ?_
          refine En_icEq _ rfl (by decide : (Int32.ofInt 4).toInt = 4) rfl (fun h1055 => ?_) (fun h1055 => ?_)
          · refine En_Ps 2 (pc' := 167) (lv' := [(0, .ref 159)]) (st' := [.int ((Int32.ofInt 3)), .ref 159]) rfl ?_
            have := (by decide : ((Int32.ofInt 3)).toInt = 3)
            refine En_callV rfl rfl rfl rfl rfl rfl rfl rfl tgz_159 (by decide +kernel) rfl (c_223x σ725 h726 ((Int32.ofInt 3)) (geI (by decide : (Int32.ofInt 3).toInt = 3) (by omega)) (leI (by decide : (Int32.ofInt 3).toInt = 3) (by omega)) y728 h729 h739) (by decide) (by decide) (fun v1057 σ1058 h1056 => ?_)
            obtain ⟨h1059, h1060, z1062, h1063, rfl, h1061⟩ := h1056
            have h1064 := h1061.2.2.2.2
            have h1065 := Fr_trans h727 h1060 (by decide +kernel)
            have h1066 := KF_fr h738 h1060 (by decide +kernel)
            obtain ⟨S1067, h1068⟩ : ∃ q : PS, q = err By Nb 3 (gN1 By Nb Sp) := ⟨_, rfl⟩
            have h1069 : ML By Nb σ1058 S1067 := by rw [h1068]; exact (ML_eq h1064 (err_cg (by omega)))
            have h1070 := ML_k h1069 h1063
            have h1071 : S1067.2.2.2 = (gN1 By Nb Sp).2.2.2 := by rw [h1068]; exact err_w
            obtain ⟨z1073, h1072, h1074, h1075⟩ := WT_peekI h1059 tgz_165 (by decide +kernel : FT 41 (2 : Int).toNat = (0, 0, 4)) (by decide +kernel)
            obtain ⟨z1077, h1076, h1078, h1079⟩ := WT_peekI h1059 tgz_165 (by decide +kernel : FT 41 (5 : Int).toNat = (0, 0, 6)) (by decide +kernel)
            exact keyj170 σ1058 z1073 z946 z1050 z1077 z1062 y732 h1059 h1065 h1072 (by omega) (by omega) ((h1060 _ _ (inWa tgz_165 (by decide +kernel))).trans h945) (by omega) (by omega) ((h1060 _ _ (inWa tgz_165 (by decide +kernel))).trans h1049) (by omega) (by omega) h1076 (by omega) (by omega) h1063 (by omega) (by omega) ((h1060 _ _ (inW tgz_159 (by decide +kernel))).trans h733) (by omega) (by omega) (by omega) (fun _ => by have := Imp_m h737 (by omega); omega) (fun _ => by have := Imp_m h737 (by omega); omega) (fun _ => by omega) (fun _ => by have := Imp_m h737 (by omega); omega) (fun _ => by have := Imp_m h737 (by omega); omega) (h1066) (ML_eq h1069 (by subst h1068; exact (gN2_pos (by omega)).symm))
          · refine En_Ps 1 (pc' := 146) (lv' := [(0, .ref 159)]) (st' := [.ref 159]) rfl ?_
            refine En_ldcS (i := 1) rfl rfl rfl ?_
            refine En_callV rfl rfl rfl rfl rfl rfl rfl rfl tgz_159 (by decide +kernel) rfl (c_251s1x σ725 h726 h739) (by decide) (by decide) (fun v1081 σ1082 h1080 => ?_)
            obtain ⟨h1083, h1084, z1086, rfl, h1085⟩ := h1080
            have h1087 := h1085.2.2
            obtain rfl : σ725 = σ1082 := Fr_nil h1084
            refine En_iEq _ rfl rfl (fun h1088 => ?_) (fun h1088 => ?_)
            · obtain ⟨z1090, h1089, h1091, h1092⟩ := WT_peekI h726 tgz_165 (by decide +kernel : FT 41 (2 : Int).toNat = (0, 0, 4)) (by decide +kernel)
              obtain ⟨z1094, h1093, h1095, h1096⟩ := WT_peekI h726 tgz_165 (by decide +kernel : FT 41 (5 : Int).toNat = (0, 0, 6)) (by decide +kernel)
              exact keyj170 σ725 z1090 z946 z1050 z1094 y728 y732 h726 h727 h1089 (by omega) (by omega) h945 (by omega) (by omega) h1049 (by omega) (by omega) h1093 (by omega) (by omega) h729 (by omega) (by omega) h733 (by omega) (by omega) (by omega) (fun _ => by have := Imp_m h737 (by omega); omega) (fun hh => by have := Imp_m h737 (by omega); have zz : (gN1 By Nb Sp).1 = 0 := (by omega); have j1 := Imp_m h741 zz; have j2 := Imp_m h742 zz; have j3 := Imp_m h743 zz; have j4 := Imp_m h744 zz; omega) (fun hh => by have zz : (gN1 By Nb Sp).1 = 0 := (by omega); have j1 := Imp_m h741 zz; have j2 := Imp_m h742 zz; have j3 := Imp_m h743 zz; have j4 := Imp_m h744 zz; omega) (fun hh => by have zz : (gN1 By Nb Sp).1 = 0 := (by omega); have j1 := Imp_m h741 zz; have j2 := Imp_m h742 zz; have j3 := Imp_m h743 zz; have j4 := Imp_m h744 zz; omega) (fun hh => by have := Imp_m h737 (by omega); have zz : (gN1 By Nb Sp).1 = 0 := (by omega); have j1 := Imp_m h741 zz; have j2 := Imp_m h742 zz; have j3 := Imp_m h743 zz; have j4 := Imp_m h744 zz; omega) (h738) (ML_eq h739 (gN2_neg (by omega)).symm)
            · refine En_Ps 1 (pc' := 155) (lv' := [(0, .ref 159)]) (st' := [.ref 159]) rfl ?_
              refine En_getK (j := 14) h943 rfl rfl rfl tgz_159 (by decide +kernel) ?_
              refine En_Ps 1 (pc' := 159) (lv' := [(0, .ref 159)]) (st' := [.int ((Int32.ofInt 5)), .ref 165]) rfl ?_
              refine En_iald (l := 0) (u := 6) rfl (by decide : (Int32.ofInt 5).toInt = 5) tgz_165 (by decide +kernel) h726 (by omega) (lnI (by decide +kernel : LN _ = 226) (by omega)) (by decide +kernel) (fun z1098 h1097 h1099 h1100 => ?_)
              have h1102 : (gN1 By Nb Sp).1 = 0 := iW_g (i := 1) (B := By) (n := Nb) (by omega)
              have h1101 : (gN1 By Nb Sp).2.2.2 5 = z1098.toInt := ML_wi h739 h1102 h1097 (by omega) (by omega) (by omega)
              refine En_Ps 1 (pc' := 162) (lv' := [(0, .ref 159)]) (st' := [.int (((Int8.ofInt 6).toInt32)), .int z1098]) rfl ?_
              refine En_icNe _ rfl (by decide : ((Int8.ofInt 6).toInt32).toInt = 6) rfl (fun h1103 => ?_) (fun h1103 => ?_)
              · obtain ⟨z1105, h1104, h1106, h1107⟩ := WT_peekI h726 tgz_165 (by decide +kernel : FT 41 (2 : Int).toNat = (0, 0, 4)) (by decide +kernel)
                exact keyj170 σ725 z1105 z946 z1050 z1098 y728 y732 h726 h727 h1104 (by omega) (by omega) h945 (by omega) (by omega) h1049 (by omega) (by omega) h1097 (by omega) (by omega) h729 (by omega) (by omega) h733 (by omega) (by omega) (by omega) (fun _ => by have := Imp_m h737 (by omega); omega) (fun hh => by have := Imp_m h737 (by omega); have zz : (gN1 By Nb Sp).1 = 0 := (by omega); have j1 := Imp_m h741 zz; have j2 := Imp_m h742 zz; have j3 := Imp_m h743 zz; have j4 := Imp_m h744 zz; omega) (fun hh => by have zz : (gN1 By Nb Sp).1 = 0 := (by omega); have j1 := Imp_m h741 zz; have j2 := Imp_m h742 zz; have j3 := Imp_m h743 zz; have j4 := Imp_m h744 zz; omega) (fun hh => by have zz : (gN1 By Nb Sp).1 = 0 := (by omega); have j1 := Imp_m h741 zz; have j2 := Imp_m h742 zz; have j3 := Imp_m h743 zz; have j4 := Imp_m h744 zz; omega) (fun hh => by have zz : (gN1 By Nb Sp).1 = 0 := (by omega); have j1 := Imp_m h741 zz; have j2 := Imp_m h742 zz; have j3 := Imp_m h743 zz; have j4 := Imp_m h744 zz; omega) (h738) (ML_eq h739 (gN2_neg (by omega)).symm)
              · refine En_Ps 2 (pc' := 167) (lv' := [(0, .ref 159)]) (st' := [.int ((Int32.ofInt 3)), .ref 159]) rfl ?_
                have := (by decide : ((Int32.ofInt 3)).toInt = 3)
                refine En_callV rfl rfl rfl rfl rfl rfl rfl rfl tgz_159 (by decide +kernel) rfl (c_223x σ725 h726 ((Int32.ofInt 3)) (geI (by decide : (Int32.ofInt 3).toInt = 3) (by omega)) (leI (by decide : (Int32.ofInt 3).toInt = 3) (by omega)) y728 h729 h739) (by decide) (by decide) (fun v1109 σ1110 h1108 => ?_)
                obtain ⟨h1111, h1112, z1114, h1115, rfl, h1113⟩ := h1108
                have h1116 := h1113.2.2.2.2
                have h1117 := Fr_trans h727 h1112 (by decide +kernel)
                have h1118 := KF_fr h738 h1112 (by decide +kernel)
                obtain ⟨S1119, h1120⟩ : ∃ q : PS, q = err By Nb 3 (gN1 By Nb Sp) := ⟨_, rfl⟩
                have h1121 : ML By Nb σ1110 S1119 := by rw [h1120]; exact (ML_eq h1116 (err_cg (by omega)))
                have h1122 := ML_k h1121 h1115
                have h1123 : S1119.2.2.2 = (gN1 By Nb Sp).2.2.2 := by rw [h1120]; exact err_w
                obtain ⟨z1125, h1124, h1126, h1127⟩ := WT_peekI h1111 tgz_165 (by decide +kernel : FT 41 (2 : Int).toNat = (0, 0, 4)) (by decide +kernel)
                exact keyj170 σ1110 z1125 z946 z1050 z1098 z1114 y732 h1111 h1117 h1124 (by omega) (by omega) ((h1112 _ _ (inWa tgz_165 (by decide +kernel))).trans h945) (by omega) (by omega) ((h1112 _ _ (inWa tgz_165 (by decide +kernel))).trans h1049) (by omega) (by omega) ((h1112 _ _ (inWa tgz_165 (by decide +kernel))).trans h1097) (by omega) (by omega) h1115 (by omega) (by omega) ((h1112 _ _ (inW tgz_159 (by decide +kernel))).trans h733) (by omega) (by omega) (by omega) (fun _ => by have := Imp_m h737 (by omega); omega) (fun _ => by have := Imp_m h737 (by omega); omega) (fun _ => by omega) (fun _ => by omega) (fun _ => by have := Imp_m h737 (by omega); omega) (h1118) (ML_eq h1121 (by subst h1120; exact (gN2_pos (by omega)).symm))
  · refine En_Ps 1 (pc' := 97) (lv' := [(0, .ref 159)]) (st' := [.ref 159]) rfl ?_
    refine En_getU (j := 14) (u := 165) (g' := 41) (q := 0) rfl rfl rfl tgz_159 (by decide +kernel) h726 (by decide +kernel) (by decide +kernel) (fun h1128 => ?_)
    refine En_Ps 1 (pc' := 101) (lv' := [(0, .ref 159)]) (st' := [.int ((Int32.ofInt 2)), .ref 165]) rfl ?_
    refine En_iald (l := 0) (u := 4) rfl (by decide : (Int32.ofInt 2).toInt = 2) tgz_165 (by decide +kernel) h726 (by omega) (lnI (by decide +kernel : LN _ = 226) (by omega)) (by decide +kernel) (fun z1131 h1130 h1132 h1133 => ?_)
    have h1135 : (gN1 By Nb Sp).1 = 0 := iW_g (i := 2) (B := By) (n := Nb) (by omega)
    have h1134 : (gN1 By Nb Sp).2.2.2 2 = z1131.toInt := ML_wi h739 h1135 h1130 (by omega) (by omega) (by omega)
    refine En_Ps 1 (pc' := 103) (lv' := [(0, .ref 159)]) (st' := [.int ((Int32.ofInt 4)), .int z1131]) rfl ?_
    refine En_icEq _ rfl (by decide : (Int32.ofInt 4).toInt = 4) rfl (fun h1136 => ?_) (fun h1136 => ?_)
    · refine En_Ps 2 (pc' := 167) (lv' := [(0, .ref 159)]) (st' := [.int ((Int32.ofInt 3)), .ref 159]) rfl ?_
      have := (by decide : ((Int32.ofInt 3)).toInt = 3)
      refine En_callV rfl rfl rfl rfl rfl rfl rfl rfl tgz_159 (by decide +kernel) rfl (c_223x σ725 h726 ((Int32.ofInt 3)) (geI (by decide : (Int32.ofInt 3).toInt = 3) (by omega)) (leI (by decide : (Int32.ofInt 3).toInt = 3) (by omega)) y728 h729 h739) (by decide) (by decide) (fun v1138 σ1139 h1137 => ?_)
      obtain ⟨h1140, h1141, z1143, h1144, rfl, h1142⟩ := h1137
      have h1145 := h1142.2.2.2.2
      have h1146 := Fr_trans h727 h1141 (by decide +kernel)
      have h1147 := KF_fr h738 h1141 (by decide +kernel)
      obtain ⟨S1148, h1149⟩ : ∃ q : PS, q = err By Nb 3 (gN1 By Nb Sp) := ⟨_, rfl⟩
      have h1150 : ML By Nb σ1139 S1148 := by rw [h1149]; exact (ML_eq h1145 (err_cg (by omega)))
      have h1151 := ML_k h1150 h1144
      have h1152 : S1148.2.2.2 = (gN1 By Nb Sp).2.2.2 := by rw [h1149]; exact err_w
      obtain ⟨z1154, h1153, h1155, h1156⟩ := WT_peekI h1140 tgz_165 (by decide +kernel : FT 41 (3 : Int).toNat = (0, 0, 12)) (by decide +kernel)
      obtain ⟨z1158, h1157, h1159, h1160⟩ := WT_peekI h1140 tgz_165 (by decide +kernel : FT 41 (4 : Int).toNat = (0, 0, 4)) (by decide +kernel)
      obtain ⟨z1162, h1161, h1163, h1164⟩ := WT_peekI h1140 tgz_165 (by decide +kernel : FT 41 (5 : Int).toNat = (0, 0, 6)) (by decide +kernel)
      exact keyj170 σ1139 z1131 z1154 z1158 z1162 z1143 y732 h1140 h1146 ((h1141 _ _ (inWa tgz_165 (by decide +kernel))).trans h1130) (by omega) (by omega) h1153 (by omega) (by omega) h1157 (by omega) (by omega) h1161 (by omega) (by omega) h1144 (by omega) (by omega) ((h1141 _ _ (inW tgz_159 (by decide +kernel))).trans h733) (by omega) (by omega) (by omega) (fun _ => by have := Imp_m h737 (by omega); omega) (fun _ => by have := Imp_m h737 (by omega); omega) (fun _ => by have := Imp_m h737 (by omega); omega) (fun _ => by have := Imp_m h737 (by omega); omega) (fun _ => by have := Imp_m h737 (by omega); omega) (h1147) (ML_eq h1150 (by subst h1149; exact (gN2_pos (by omega)).symm))
    · refine En_Ps 1 (pc' := 107) (lv' := [(0, .ref 159)]) (st' := [.ref 159]) rfl ?_
      refine En_ldcS (i := 3) rfl rfl rfl ?_
      refine En_callV rfl rfl rfl rfl rfl rfl rfl rfl tgz_159 (by decide +kernel) rfl (c_251s3x σ725 h726 h739) (by decide) (by decide) (fun v1166 σ1167 h1165 => ?_)
      obtain ⟨h1168, h1169, z1171, rfl, h1170⟩ := h1165
      have h1172 := h1170.2.2
      obtain rfl : σ725 = σ1167 := Fr_nil h1169
      refine En_iEq _ rfl rfl (fun h1173 => ?_) (fun h1173 => ?_)
      · refine En_Ps 1 (pc' := 127) (lv' := [(0, .ref 159)]) (st' := [.ref 159]) rfl ?_
        refine En_ldcS (i := 5) rfl rfl rfl ?_
        refine En_callV rfl rfl rfl rfl rfl rfl rfl rfl tgz_159 (by decide +kernel) rfl (c_251s5x σ725 h726 h739) (by decide) (by decide) (fun v1175 σ1176 h1174 => ?_)
        obtain ⟨h1177, h1178, z1180, rfl, h1179⟩ := h1174
        have h1181 := h1179.2.2
        obtain rfl : σ725 = σ1176 := Fr_nil h1178
        refine En_iEq _ rfl rfl (fun h1182 => ?_) (fun h1182 => ?_)
        · refine En_Ps 1 (pc' := 146) (lv' := [(0, .ref 159)]) (st' := [.ref 159]) rfl ?_
          refine En_ldcS (i := 1) rfl rfl rfl ?_
          refine En_callV rfl rfl rfl rfl rfl rfl rfl rfl tgz_159 (by decide +kernel) rfl (c_251s1x σ725 h726 h739) (by decide) (by decide) (fun v1184 σ1185 h1183 => ?_)
          obtain ⟨h1186, h1187, z1189, rfl, h1188⟩ := h1183
          have h1190 := h1188.2.2
          obtain rfl : σ725 = σ1185 := Fr_nil h1187
          refine En_iEq _ rfl rfl (fun h1191 => ?_) (fun h1191 => ?_)
          · obtain ⟨z1193, h1192, h1194, h1195⟩ := WT_peekI h726 tgz_165 (by decide +kernel : FT 41 (3 : Int).toNat = (0, 0, 12)) (by decide +kernel)
            obtain ⟨z1197, h1196, h1198, h1199⟩ := WT_peekI h726 tgz_165 (by decide +kernel : FT 41 (4 : Int).toNat = (0, 0, 4)) (by decide +kernel)
            obtain ⟨z1201, h1200, h1202, h1203⟩ := WT_peekI h726 tgz_165 (by decide +kernel : FT 41 (5 : Int).toNat = (0, 0, 6)) (by decide +kernel)
            exact keyj170 σ725 z1131 z1193 z1197 z1201 y728 y732 h726 h727 h1130 (by omega) (by omega) h1192 (by omega) (by omega) h1196 (by omega) (by omega) h1200 (by omega) (by omega) h729 (by omega) (by omega) h733 (by omega) (by omega) (by omega) (fun _ => by have := Imp_m h737 (by omega); omega) (fun hh => by have zz : (gN1 By Nb Sp).1 = 0 := (by omega); have j1 := Imp_m h741 zz; have j2 := Imp_m h742 zz; have j3 := Imp_m h743 zz; have j4 := Imp_m h744 zz; omega) (fun hh => by have := Imp_m h737 (by omega); have zz : (gN1 By Nb Sp).1 = 0 := (by omega); have j1 := Imp_m h741 zz; have j2 := Imp_m h742 zz; have j3 := Imp_m h743 zz; have j4 := Imp_m h744 zz; omega) (fun hh => by have := Imp_m h737 (by omega); have zz : (gN1 By Nb Sp).1 = 0 := (by omega); have j1 := Imp_m h741 zz; have j2 := Imp_m h742 zz; have j3 := Imp_m h743 zz; have j4 := Imp_m h744 zz; omega) (fun hh => by have := Imp_m h737 (by omega); have zz : (gN1 By Nb Sp).1 = 0 := (by omega); have j1 := Imp_m h741 zz; have j2 := Imp_m h742 zz; have j3 := Imp_m h743 zz; have j4 := Imp_m h744 zz; omega) (h738) (ML_eq h739 (gN2_neg (by omega)).symm)
          · refine En_Ps 1 (pc' := 155) (lv' := [(0, .ref 159)]) (st' := [.ref 159]) rfl ?_
            refine En_getK (j := 14) h1128 rfl rfl rfl tgz_159 (by decide +kernel) ?_
            refine En_Ps 1 (pc' := 159) (lv' := [(0, .ref 159)]) (st' := [.int ((Int32.ofInt 5)), .ref 165]) rfl ?_
            refine En_iald (l := 0) (u := 6) rfl (by decide : (Int32.ofInt 5).toInt = 5) tgz_165 (by decide +kernel) h726 (by omega) (lnI (by decide +kernel : LN _ = 226) (by omega)) (by decide +kernel) (fun z1205 h1204 h1206 h1207 => ?_)
            have h1209 : (gN1 By Nb Sp).1 = 0 := iW_g (i := 1) (B := By) (n := Nb) (by omega)
            have h1208 : (gN1 By Nb Sp).2.2.2 5 = z1205.toInt := ML_wi h739 h1209 h1204 (by omega) (by omega) (by omega)
            refine En_Ps 1 (pc' := 162) (lv' := [(0, .ref 159)]) (st' := [.int (((Int8.ofInt 6).toInt32)), .int z1205]) rfl ?_
            refine En_icNe _ rfl (by decide : ((Int8.ofInt 6).toInt32).toInt = 6) rfl (fun h1210 => ?_) (fun h1210 => ?_)
            · obtain ⟨z1212, h1211, h1213, h1214⟩ := WT_peekI h726 tgz_165 (by decide +kernel : FT 41 (3 : Int).toNat = (0, 0, 12)) (by decide +kernel)
              obtain ⟨z1216, h1215, h1217, h1218⟩ := WT_peekI h726 tgz_165 (by decide +kernel : FT 41 (4 : Int).toNat = (0, 0, 4)) (by decide +kernel)
              exact keyj170 σ725 z1131 z1212 z1216 z1205 y728 y732 h726 h727 h1130 (by omega) (by omega) h1211 (by omega) (by omega) h1215 (by omega) (by omega) h1204 (by omega) (by omega) h729 (by omega) (by omega) h733 (by omega) (by omega) (by omega) (fun _ => by have := Imp_m h737 (by omega); omega) (fun hh => by have zz : (gN1 By Nb Sp).1 = 0 := (by omega); have j1 := Imp_m h741 zz; have j2 := Imp_m h742 zz; have j3 := Imp_m h743 zz; have j4 := Imp_m h744 zz; omega) (fun hh => by have := Imp_m h737 (by omega); have zz : (gN1 By Nb Sp).1 = 0 := (by omega); have j1 := Imp_m h741 zz; have j2 := Imp_m h742 zz; have j3 := Imp_m h743 zz; have j4 := Imp_m h744 zz; omega) (fun hh => by have := Imp_m h737 (by omega); have zz : (gN1 By Nb Sp).1 = 0 := (by omega); have j1 := Imp_m h741 zz; have j2 := Imp_m h742 zz; have j3 := Imp_m h743 zz; have j4 := Imp_m h744 zz; omega) (fun hh => by have zz : (gN1 By Nb Sp).1 = 0 := (by omega); have j1 := Imp_m h741 zz; have j2 := Imp_m h742 zz; have j3 := Imp_m h743 zz; have j4 := Imp_m h744 zz; omega) (h738) (ML_eq h739 (gN2_neg (by omega)).symm)
            · refine En_Ps 2 (pc' := 167) (lv' := [(0, .ref 159)]) (st' := [.int ((Int32.ofInt 3)), .ref 159]) rfl ?_
              have := (by decide : ((Int32.ofInt 3)).toInt = 3)
              refine En_callV rfl rfl rfl rfl rfl rfl rfl rfl tgz_159 (by decide +kernel) rfl (c_223x σ725 h726 ((Int32.ofInt 3)) (geI (by decide : (Int32.ofInt 3).toInt = 3) (by omega)) (leI (by decide : (Int32.ofInt 3).toInt = 3) (by omega)) y728 h729 h739) (by decide) (by decide) (fun v1220 σ1221 h1219 => ?_)
              obtain ⟨h1222, h1223, z1225, h1226, rfl, h1224⟩ := h1219
              have h1227 := h1224.2.2.2.2
              have h1228 := Fr_trans h727 h1223 (by decide +kernel)
              have h1229 := KF_fr h738 h1223 (by decide +kernel)
              obtain ⟨S1230, h1231⟩ : ∃ q : PS, q = err By Nb 3 (gN1 By Nb Sp) := ⟨_, rfl⟩
              have h1232 : ML By Nb σ1221 S1230 := by rw [h1231]; exact (ML_eq h1227 (err_cg (by omega)))
              have h1233 := ML_k h1232 h1226
              have h1234 : S1230.2.2.2 = (gN1 By Nb Sp).2.2.2 := by rw [h1231]; exact err_w
              obtain ⟨z1236, h1235, h1237, h1238⟩ := WT_peekI h1222 tgz_165 (by decide +kernel : FT 41 (3 : Int).toNat = (0, 0, 12)) (by decide +kernel)
              obtain ⟨z1240, h1239, h1241, h1242⟩ := WT_peekI h1222 tgz_165 (by decide +kernel : FT 41 (4 : Int).toNat = (0, 0, 4)) (by decide +kernel)
              exact keyj170 σ1221 z1131 z1236 z1240 z1205 z1225 y732 h1222 h1228 ((h1223 _ _ (inWa tgz_165 (by decide +kernel))).trans h1130) (by omega) (by omega) h1235 (by omega) (by omega) h1239 (by omega) (by omega) ((h1223 _ _ (inWa tgz_165 (by decide +kernel))).trans h1204) (by omega) (by omega) h1226 (by omega) (by omega) ((h1223 _ _ (inW tgz_159 (by decide +kernel))).trans h733) (by omega) (by omega) (by omega) (fun _ => by have := Imp_m h737 (by omega); omega) (fun _ => by omega) (fun _ => by have := Imp_m h737 (by omega); omega) (fun _ => by have := Imp_m h737 (by omega); omega) (fun _ => by have := Imp_m h737 (by omega); omega) (h1229) (ML_eq h1232 (by subst h1231; exact (gN2_pos (by omega)).symm))
        · refine En_Ps 1 (pc' := 136) (lv' := [(0, .ref 159)]) (st' := [.ref 159]) rfl ?_
          refine En_getK (j := 14) h1128 rfl rfl rfl tgz_159 (by decide +kernel) ?_
          refine En_Ps 1 (pc' := 140) (lv' := [(0, .ref 159)]) (st' := [.int ((Int32.ofInt 4)), .ref 165]) rfl ?_
          refine En_iald (l := 0) (u := 4) rfl (by decide : (Int32.ofInt 4).toInt = 4) tgz_165 (by decide +kernel) h726 (by omega) (lnI (by decide +kernel : LN _ = 226) (by omega)) (by decide +kernel) (fun z1244 h1243 h1245 h1246 => ?_)
          have h1248 : (gN1 By Nb Sp).1 = 0 := iW_g (i := 5) (B := By) (n := Nb) (by omega)
          have h1247 : (gN1 By Nb Sp).2.2.2 4 = z1244.toInt := ML_wi h739 h1248 h1243 (by omega) (by omega) (by omega)
          refine En_Ps 1 (pc' := 142) (lv' := [(0, .ref 159)]) (st' := [.int ((Int32.ofInt 4)), .int z1244]) rfl ?_
          refine En_icEq _ rfl (by decide : (Int32.ofInt 4).toInt = 4) rfl (fun h1249 => ?_) (fun h1249 => ?_)
          · refine En_Ps 2 (pc' := 167) (lv' := [(0, .ref 159)]) (st' := [.int ((Int32.ofInt 3)), .ref 159]) rfl ?_
            have := (by decide : ((Int32.ofInt 3)).toInt = 3)
            refine En_callV rfl rfl rfl rfl rfl rfl rfl rfl tgz_159 (by decide +kernel) rfl (c_223x σ725 h726 ((Int32.ofInt 3)) (geI (by decide : (Int32.ofInt 3).toInt = 3) (by omega)) (leI (by decide : (Int32.ofInt 3).toInt = 3) (by omega)) y728 h729 h739) (by decide) (by decide) (fun v1251 σ1252 h1250 => ?_)
            obtain ⟨h1253, h1254, z1256, h1257, rfl, h1255⟩ := h1250
            have h1258 := h1255.2.2.2.2
            have h1259 := Fr_trans h727 h1254 (by decide +kernel)
            have h1260 := KF_fr h738 h1254 (by decide +kernel)
            obtain ⟨S1261, h1262⟩ : ∃ q : PS, q = err By Nb 3 (gN1 By Nb Sp) := ⟨_, rfl⟩
            have h1263 : ML By Nb σ1252 S1261 := by rw [h1262]; exact (ML_eq h1258 (err_cg (by omega)))
            have h1264 := ML_k h1263 h1257
            have h1265 : S1261.2.2.2 = (gN1 By Nb Sp).2.2.2 := by rw [h1262]; exact err_w
            obtain ⟨z1267, h1266, h1268, h1269⟩ := WT_peekI h1253 tgz_165 (by decide +kernel : FT 41 (3 : Int).toNat = (0, 0, 12)) (by decide +kernel)
            obtain ⟨z1271, h1270, h1272, h1273⟩ := WT_peekI h1253 tgz_165 (by decide +kernel : FT 41 (5 : Int).toNat = (0, 0, 6)) (by decide +kernel)
            exact keyj170 σ1252 z1131 z1267 z1244 z1271 z1256 y732 h1253 h1259 ((h1254 _ _ (inWa tgz_165 (by decide +kernel))).trans h1130) (by omega) (by omega) h1266 (by omega) (by omega) ((h1254 _ _ (inWa tgz_165 (by decide +kernel))).trans h1243) (by omega) (by omega) h1270 (by omega) (by omega) h1257 (by omega) (by omega) ((h1254 _ _ (inW tgz_159 (by decide +kernel))).trans h733) (by omega) (by omega) (by omega) (fun _ => by have := Imp_m h737 (by omega); omega) (fun _ => by omega) (fun _ => by have := Imp_m h737 (by omega); omega) (fun _ => by have := Imp_m h737 (by omega); omega) (fun _ => by have := Imp_m h737 (by omega); omega) (h1260) (ML_eq h1263 (by subst h1262; exact (gN2_pos (by omega)).symm))
          · refine En_Ps 1 (pc' := 146) (lv' := [(0, .ref 159)]) (st' := [.ref 159]) rfl ?_
            refine En_ldcS (i := 1) rfl rfl rfl ?_
            refine En_callV rfl rfl rfl rfl rfl rfl rfl rfl tgz_159 (by decide +kernel) rfl (c_251s1x σ725 h726 h739) (by decide) (by decide) (fun v1275 σ1276 h1274 => ?_)
            obtain ⟨h1277, h1278, z1280, rfl, h1279⟩ := h1274
            have h1281 := h1279.2.2
            obtain rfl : σ725 = σ1276 := Fr_nil h1278
            refine En_iEq _ rfl rfl (fun h1282 => ?_) (fun h1282 => ?_)
            · obtain ⟨z1284, h1283, h1285, h1286⟩ := WT_peekI h726 tgz_165 (by decide +kernel : FT 41 (3 : Int).toNat = (0, 0, 12)) (by decide +kernel)
              obtain ⟨z1288, h1287, h1289, h1290⟩ := WT_peekI h726 tgz_165 (by decide +kernel : FT 41 (5 : Int).toNat = (0, 0, 6)) (by decide +kernel)
              exact keyj170 σ725 z1131 z1284 z1244 z1288 y728 y732 h726 h727 h1130 (by omega) (by omega) h1283 (by omega) (by omega) h1243 (by omega) (by omega) h1287 (by omega) (by omega) h729 (by omega) (by omega) h733 (by omega) (by omega) (by omega) (fun _ => by have := Imp_m h737 (by omega); omega) (fun hh => by have zz : (gN1 By Nb Sp).1 = 0 := (by omega); have j1 := Imp_m h741 zz; have j2 := Imp_m h742 zz; have j3 := Imp_m h743 zz; have j4 := Imp_m h744 zz; omega) (fun hh => by have := Imp_m h737 (by omega); have zz : (gN1 By Nb Sp).1 = 0 := (by omega); have j1 := Imp_m h741 zz; have j2 := Imp_m h742 zz; have j3 := Imp_m h743 zz; have j4 := Imp_m h744 zz; omega) (fun hh => by have zz : (gN1 By Nb Sp).1 = 0 := (by omega); have j1 := Imp_m h741 zz; have j2 := Imp_m h742 zz; have j3 := Imp_m h743 zz; have j4 := Imp_m h744 zz; omega) (fun hh => by have := Imp_m h737 (by omega); have zz : (gN1 By Nb Sp).1 = 0 := (by omega); have j1 := Imp_m h741 zz; have j2 := Imp_m h742 zz; have j3 := Imp_m h743 zz; have j4 := Imp_m h744 zz; omega) (h738) (ML_eq h739 (gN2_neg (by omega)).symm)
            · refine En_Ps 1 (pc' := 155) (lv' := [(0, .ref 159)]) (st' := [.ref 159]) rfl ?_
              refine En_getK (j := 14) h1128 rfl rfl rfl tgz_159 (by decide +kernel) ?_
              refine En_Ps 1 (pc' := 159) (lv' := [(0, .ref 159)]) (st' := [.int ((Int32.ofInt 5)), .ref 165]) rfl ?_
              refine En_iald (l := 0) (u := 6) rfl (by decide : (Int32.ofInt 5).toInt = 5) tgz_165 (by decide +kernel) h726 (by omega) (lnI (by decide +kernel : LN _ = 226) (by omega)) (by decide +kernel) (fun z1292 h1291 h1293 h1294 => ?_)
              have h1296 : (gN1 By Nb Sp).1 = 0 := iW_g (i := 1) (B := By) (n := Nb) (by omega)
              have h1295 : (gN1 By Nb Sp).2.2.2 5 = z1292.toInt := ML_wi h739 h1296 h1291 (by omega) (by omega) (by omega)
              refine En_Ps 1 (pc' := 162) (lv' := [(0, .ref 159)]) (st' := [.int (((Int8.ofInt 6).toInt32)), .int z1292]) rfl ?_
              refine En_icNe _ rfl (by decide : ((Int8.ofInt 6).toInt32).toInt = 6) rfl (fun h1297 => ?_) (fun h1297 => ?_)
              · obtain ⟨z1299, h1298, h1300, h1301⟩ := WT_peekI h726 tgz_165 (by decide +kernel : FT 41 (3 : Int).toNat = (0, 0, 12)) (by decide +kernel)
                exact keyj170 σ725 z1131 z1299 z1244 z1292 y728 y732 h726 h727 h1130 (by omega) (by omega) h1298 (by omega) (by omega) h1243 (by omega) (by omega) h1291 (by omega) (by omega) h729 (by omega) (by omega) h733 (by omega) (by omega) (by omega) (fun _ => by have := Imp_m h737 (by omega); omega) (fun hh => by have zz : (gN1 By Nb Sp).1 = 0 := (by omega); have j1 := Imp_m h741 zz; have j2 := Imp_m h742 zz; have j3 := Imp_m h743 zz; have j4 := Imp_m h744 zz; omega) (fun hh => by have := Imp_m h737 (by omega); have zz : (gN1 By Nb Sp).1 = 0 := (by omega); have j1 := Imp_m h741 zz; have j2 := Imp_m h742 zz; have j3 := Imp_m h743 zz; have j4 := Imp_m h744 zz; omega) (fun hh => by have zz : (gN1 By Nb Sp).1 = 0 := (by omega); have j1 := Imp_m h741 zz; have j2 := Imp_m h742 zz; have j3 := Imp_m h743 zz; have j4 := Imp_m h744 zz; omega) (fun hh => by have zz : (gN1 By Nb Sp).1 = 0 := (by omega); have j1 := Imp_m h741 zz; have j2 := Imp_m h742 zz; have j3 := Imp_m h743 zz; have j4 := Imp_m h744 zz; omega) (h738) (ML_eq h739 (gN2_neg (by omega)).symm)
              · refine En_Ps 2 (pc' := 167) (lv' := [(0, .ref 159)]) (st' := [.int ((Int32.ofInt 3)), .ref 159]) rfl ?_
                have := (by decide : ((Int32.ofInt 3)).toInt = 3)
                refine En_callV rfl rfl rfl rfl rfl rfl rfl rfl tgz_159 (by decide +kernel) rfl (c_223x σ725 h726 ((Int32.ofInt 3)) (geI (by decide : (Int32.ofInt 3).toInt = 3) (by omega)) (leI (by decide : (Int32.ofInt 3).toInt = 3) (by omega)) y728 h729 h739) (by decide) (by decide) (fun v1303 σ1304 h1302 => ?_)
                obtain ⟨h1305, h1306, z1308, h1309, rfl, h1307⟩ := h1302
                have h1310 := h1307.2.2.2.2
                have h1311 := Fr_trans h727 h1306 (by decide +kernel)
                have h1312 := KF_fr h738 h1306 (by decide +kernel)
                obtain ⟨S1313, h1314⟩ : ∃ q : PS, q = err By Nb 3 (gN1 By Nb Sp) := ⟨_, rfl⟩
                have h1315 : ML By Nb σ1304 S1313 := by rw [h1314]; exact (ML_eq h1310 (err_cg (by omega)))
                have h1316 := ML_k h1315 h1309
                have h1317 : S1313.2.2.2 = (gN1 By Nb Sp).2.2.2 := by rw [h1314]; exact err_w
                obtain ⟨z1319, h1318, h1320, h1321⟩ := WT_peekI h1305 tgz_165 (by decide +kernel : FT 41 (3 : Int).toNat = (0, 0, 12)) (by decide +kernel)
                exact keyj170 σ1304 z1131 z1319 z1244 z1292 z1308 y732 h1305 h1311 ((h1306 _ _ (inWa tgz_165 (by decide +kernel))).trans h1130) (by omega) (by omega) h1318 (by omega) (by omega) ((h1306 _ _ (inWa tgz_165 (by decide +kernel))).trans h1243) (by omega) (by omega) ((h1306 _ _ (inWa tgz_165 (by decide +kernel))).trans h1291) (by omega) (by omega) h1309 (by omega) (by omega) ((h1306 _ _ (inW tgz_159 (by decide +kernel))).trans h733) (by omega) (by omega) (by omega) (fun _ => by have := Imp_m h737 (by omega); omega) (fun _ => by omega) (fun _ => by have := Imp_m h737 (by omega); omega) (fun _ => by omega) (fun _ => by have := Imp_m h737 (by omega); omega) (h1312) (ML_eq h1315 (by subst h1314; exact (gN2_pos (by omega)).symm))
      · refine En_Ps 1 (pc' := 116) (lv' := [(0, .ref 159)]) (st' := [.ref 159]) rfl ?_
        refine En_getK (j := 14) h1128 rfl rfl rfl tgz_159 (by decide +kernel) ?_
        refine En_Ps 1 (pc' := 120) (lv' := [(0, .ref 159)]) (st' := [.int ((Int32.ofInt 3)), .ref 165]) rfl ?_
        refine En_iald (l := 0) (u := 12) rfl (by decide : (Int32.ofInt 3).toInt = 3) tgz_165 (by decide +kernel) h726 (by omega) (lnI (by decide +kernel : LN _ = 226) (by omega)) (by decide +kernel) (fun z1323 h1322 h1324 h1325 => ?_)
        have h1327 : (gN1 By Nb Sp).1 = 0 := iW_g (i := 3) (B := By) (n := Nb) (by omega)
        have h1326 : (gN1 By Nb Sp).2.2.2 3 = z1323.toInt := ML_wi h739 h1327 h1322 (by omega) (by omega) (by omega)
        refine En_Ps 1 (pc' := 123) (lv' := [(0, .ref 159)]) (st' := [.int (((Int8.ofInt 12).toInt32)), .int z1323]) rfl ?_
        refine En_icEq _ rfl (by decide : ((Int8.ofInt 12).toInt32).toInt = 12) rfl (fun h1328 => ?_) (fun h1328 => ?_)
        · refine En_Ps 2 (pc' := 167) (lv' := [(0, .ref 159)]) (st' := [.int ((Int32.ofInt 3)), .ref 159]) rfl ?_
          have := (by decide : ((Int32.ofInt 3)).toInt = 3)
          refine En_callV rfl rfl rfl rfl rfl rfl rfl rfl tgz_159 (by decide +kernel) rfl (c_223x σ725 h726 ((Int32.ofInt 3)) (geI (by decide : (Int32.ofInt 3).toInt = 3) (by omega)) (leI (by decide : (Int32.ofInt 3).toInt = 3) (by omega)) y728 h729 h739) (by decide) (by decide) (fun v1330 σ1331 h1329 => ?_)
          obtain ⟨h1332, h1333, z1335, h1336, rfl, h1334⟩ := h1329
          have h1337 := h1334.2.2.2.2
          have h1338 := Fr_trans h727 h1333 (by decide +kernel)
          have h1339 := KF_fr h738 h1333 (by decide +kernel)
          obtain ⟨S1340, h1341⟩ : ∃ q : PS, q = err By Nb 3 (gN1 By Nb Sp) := ⟨_, rfl⟩
          have h1342 : ML By Nb σ1331 S1340 := by rw [h1341]; exact (ML_eq h1337 (err_cg (by omega)))
          have h1343 := ML_k h1342 h1336
          have h1344 : S1340.2.2.2 = (gN1 By Nb Sp).2.2.2 := by rw [h1341]; exact err_w
          obtain ⟨z1346, h1345, h1347, h1348⟩ := WT_peekI h1332 tgz_165 (by decide +kernel : FT 41 (4 : Int).toNat = (0, 0, 4)) (by decide +kernel)
          obtain ⟨z1350, h1349, h1351, h1352⟩ := WT_peekI h1332 tgz_165 (by decide +kernel : FT 41 (5 : Int).toNat = (0, 0, 6)) (by decide +kernel)
          exact keyj170 σ1331 z1131 z1323 z1346 z1350 z1335 y732 h1332 h1338 ((h1333 _ _ (inWa tgz_165 (by decide +kernel))).trans h1130) (by omega) (by omega) ((h1333 _ _ (inWa tgz_165 (by decide +kernel))).trans h1322) (by omega) (by omega) h1345 (by omega) (by omega) h1349 (by omega) (by omega) h1336 (by omega) (by omega) ((h1333 _ _ (inW tgz_159 (by decide +kernel))).trans h733) (by omega) (by omega) (by omega) (fun _ => by have := Imp_m h737 (by omega); omega) (fun _ => by omega) (fun _ => by have := Imp_m h737 (by omega); omega) (fun _ => by have := Imp_m h737 (by omega); omega) (fun _ => by have := Imp_m h737 (by omega); omega) (h1339) (ML_eq h1342 (by subst h1341; exact (gN2_pos (by omega)).symm))
        · refine En_Ps 1 (pc' := 127) (lv' := [(0, .ref 159)]) (st' := [.ref 159]) rfl ?_
          refine En_ldcS (i := 5) rfl rfl rfl ?_
          refine En_callV rfl rfl rfl rfl rfl rfl rfl rfl tgz_159 (by decide +kernel) rfl (c_251s5x σ725 h726 h739) (by decide) (by decide) (fun v1354 σ1355 h1353 => ?_)
          obtain ⟨h1356, h1357, z1359, rfl, h1358⟩ := h1353
          have h1360 := h1358.2.2
          obtain rfl : σ725 = σ1355 := Fr_nil h1357
          refine En_iEq _ rfl rfl (fun h1361 => ?_) (fun h1361 => ?_)
          · refine En_Ps 1 (pc' := 146) (lv' := [(0, .ref 159)]) (st' := [.ref 159]) rfl ?_
            refine En_ldcS (i := 1) rfl rfl rfl ?_
            refine En_callV rfl rfl rfl rfl rfl rfl rfl rfl tgz_159 (by decide +kernel) rfl (c_251s1x σ725 h726 h739) (by decide) (by decide) (fun v1363 σ1364 h1362 => ?_)
            obtain ⟨h1365, h1366, z1368, rfl, h1367⟩ := h1362
            have h1369 := h1367.2.2
            obtain rfl : σ725 = σ1364 := Fr_nil h1366
            refine En_iEq _ rfl rfl (fun h1370 => ?_) (fun h1370 => ?_)
            · obtain ⟨z1372, h1371, h1373, h1374⟩ := WT_peekI h726 tgz_165 (by decide +kernel : FT 41 (4 : Int).toNat = (0, 0, 4)) (by decide +kernel)
              obtain ⟨z1376, h1375, h1377, h1378⟩ := WT_peekI h726 tgz_165 (by decide +kernel : FT 41 (5 : Int).toNat = (0, 0, 6)) (by decide +kernel)
              exact keyj170 σ725 z1131 z1323 z1372 z1376 y728 y732 h726 h727 h1130 (by omega) (by omega) h1322 (by omega) (by omega) h1371 (by omega) (by omega) h1375 (by omega) (by omega) h729 (by omega) (by omega) h733 (by omega) (by omega) (by omega) (fun _ => by have := Imp_m h737 (by omega); omega) (fun hh => by have zz : (gN1 By Nb Sp).1 = 0 := (by omega); have j1 := Imp_m h741 zz; have j2 := Imp_m h742 zz; have j3 := Imp_m h743 zz; have j4 := Imp_m h744 zz; omega) (fun hh => by have zz : (gN1 By Nb Sp).1 = 0 := (by omega); have j1 := Imp_m h741 zz; have j2 := Imp_m h742 zz; have j3 := Imp_m h743 zz; have j4 := Imp_m h744 zz; omega) (fun hh => by have := Imp_m h737 (by omega); have zz : (gN1 By Nb Sp).1 = 0 := (by omega); have j1 := Imp_m h741 zz; have j2 := Imp_m h742 zz; have j3 := Imp_m h743 zz; have j4 := Imp_m h744 zz; omega) (fun hh => by have := Imp_m h737 (by omega); have zz : (gN1 By Nb Sp).1 = 0 := (by omega); have j1 := Imp_m h741 zz; have j2 := Imp_m h742 zz; have j3 := Imp_m h743 zz; have j4 := Imp_m h744 zz; omega) (h738) (ML_eq h739 (gN2_neg (by omega)).symm)
            · refine En_Ps 1 (pc' := 155) (lv' := [(0, .ref 159)]) (st' := [.ref 159]) rfl ?_
              refine En_getK (j := 14) h1128 rfl rfl rfl tgz_159 (by decide +kernel) ?_
              refine En_Ps 1 (pc' := 159) (lv' := [(0, .ref 159)]) (st' := [.int ((Int32.ofInt 5)), .ref 165]) rfl ?_
              refine En_iald (l := 0) (u := 6) rfl (by decide : (Int32.ofInt 5).toInt = 5) tgz_165 (by decide +kernel) h726 (by omega) (lnI (by decide +kernel : LN _ = 226) (by omega)) (by decide +kernel) (fun z1380 h1379 h1381 h1382 => ?_)
              have h1384 : (gN1 By Nb Sp).1 = 0 := iW_g (i := 1) (B := By) (n := Nb) (by omega)
              have h1383 : (gN1 By Nb Sp).2.2.2 5 = z1380.toInt := ML_wi h739 h1384 h1379 (by omega) (by omega) (by omega)
              refine En_Ps 1 (pc' := 162) (lv' := [(0, .ref 159)]) (st' := [.int (((Int8.ofInt 6).toInt32)), .int z1380]) rfl ?_
              refine En_icNe _ rfl (by decide : ((Int8.ofInt 6).toInt32).toInt = 6) rfl (fun h1385 => ?_) (fun h1385 => ?_)
              · obtain ⟨z1387, h1386, h1388, h1389⟩ := WT_peekI h726 tgz_165 (by decide +kernel : FT 41 (4 : Int).toNat = (0, 0, 4)) (by decide +kernel)
                exact keyj170 σ725 z1131 z1323 z1387 z1380 y728 y732 h726 h727 h1130 (by omega) (by omega) h1322 (by omega) (by omega) h1386 (by omega) (by omega) h1379 (by omega) (by omega) h729 (by omega) (by omega) h733 (by omega) (by omega) (by omega) (fun _ => by have := Imp_m h737 (by omega); omega) (fun hh => by have zz : (gN1 By Nb Sp).1 = 0 := (by omega); have j1 := Imp_m h741 zz; have j2 := Imp_m h742 zz; have j3 := Imp_m h743 zz; have j4 := Imp_m h744 zz; omega) (fun hh => by have zz : (gN1 By Nb Sp).1 = 0 := (by omega); have j1 := Imp_m h741 zz; have j2 := Imp_m h742 zz; have j3 := Imp_m h743 zz; have j4 := Imp_m h744 zz; omega) (fun hh => by have := Imp_m h737 (by omega); have zz : (gN1 By Nb Sp).1 = 0 := (by omega); have j1 := Imp_m h741 zz; have j2 := Imp_m h742 zz; have j3 := Imp_m h743 zz; have j4 := Imp_m h744 zz; omega) (fun hh => by have zz : (gN1 By Nb Sp).1 = 0 := (by omega); have j1 := Imp_m h741 zz; have j2 := Imp_m h742 zz; have j3 := Imp_m h743 zz; have j4 := Imp_m h744 zz; omega) (h738) (ML_eq h739 (gN2_neg (by omega)).symm)
              · refine En_Ps 2 (pc' := 167) (lv' := [(0, .ref 159)]) (st' := [.int ((Int32.ofInt 3)), .ref 159]) rfl ?_
                have := (by decide : ((Int32.ofInt 3)).toInt = 3)
                refine En_callV rfl rfl rfl rfl rfl rfl rfl rfl tgz_159 (by decide +kernel) rfl (c_223x σ725 h726 ((Int32.ofInt 3)) (geI (by decide : (Int32.ofInt 3).toInt = 3) (by omega)) (leI (by decide : (Int32.ofInt 3).toInt = 3) (by omega)) y728 h729 h739) (by decide) (by decide) (fun v1391 σ1392 h1390 => ?_)
                obtain ⟨h1393, h1394, z1396, h1397, rfl, h1395⟩ := h1390
                have h1398 := h1395.2.2.2.2
                have h1399 := Fr_trans h727 h1394 (by decide +kernel)
                have h1400 := KF_fr h738 h1394 (by decide +kernel)
                obtain ⟨S1401, h1402⟩ : ∃ q : PS, q = err By Nb 3 (gN1 By Nb Sp) := ⟨_, rfl⟩
                have h1403 : ML By Nb σ1392 S1401 := by rw [h1402]; exact (ML_eq h1398 (err_cg (by omega)))
                have h1404 := ML_k h1403 h1397
                have h1405 : S1401.2.2.2 = (gN1 By Nb Sp).2.2.2 := by rw [h1402]; exact err_w
                obtain ⟨z1407, h1406, h1408, h1409⟩ := WT_peekI h1393 tgz_165 (by decide +kernel : FT 41 (4 : Int).toNat = (0, 0, 4)) (by decide +kernel)
                exact keyj170 σ1392 z1131 z1323 z1407 z1380 z1396 y732 h1393 h1399 ((h1394 _ _ (inWa tgz_165 (by decide +kernel))).trans h1130) (by omega) (by omega) ((h1394 _ _ (inWa tgz_165 (by decide +kernel))).trans h1322) (by omega) (by omega) h1406 (by omega) (by omega) ((h1394 _ _ (inWa tgz_165 (by decide +kernel))).trans h1379) (by omega) (by omega) h1397 (by omega) (by omega) ((h1394 _ _ (inW tgz_159 (by decide +kernel))).trans h733) (by omega) (by omega) (by omega) (fun _ => by have := Imp_m h737 (by omega); omega) (fun _ => by omega) (fun _ => by omega) (fun _ => by have := Imp_m h737 (by omega); omega) (fun _ => by have := Imp_m h737 (by omega); omega) (h1400) (ML_eq h1403 (by subst h1402; exact (gN2_pos (by omega)).symm))
          · refine En_Ps 1 (pc' := 136) (lv' := [(0, .ref 159)]) (st' := [.ref 159]) rfl ?_
            refine En_getK (j := 14) h1128 rfl rfl rfl tgz_159 (by decide +kernel) ?_
            refine En_Ps 1 (pc' := 140) (lv' := [(0, .ref 159)]) (st' := [.int ((Int32.ofInt 4)), .ref 165]) rfl ?_
            refine En_iald (l := 0) (u := 4) rfl (by decide : (Int32.ofInt 4).toInt = 4) tgz_165 (by decide +kernel) h726 (by omega) (lnI (by decide +kernel : LN _ = 226) (by omega)) (by decide +kernel) (fun z1411 h1410 h1412 h1413 => ?_)
            have h1415 : (gN1 By Nb Sp).1 = 0 := iW_g (i := 5) (B := By) (n := Nb) (by omega)
            have h1414 : (gN1 By Nb Sp).2.2.2 4 = z1411.toInt := ML_wi h739 h1415 h1410 (by omega) (by omega) (by omega)
            refine En_Ps 1 (pc' := 142) (lv' := [(0, .ref 159)]) (st' := [.int ((Int32.ofInt 4)), .int z1411]) rfl ?_
            refine En_icEq _ rfl (by decide : (Int32.ofInt 4).toInt = 4) rfl (fun h1416 => ?_) (fun h1416 => ?_)
            · refine En_Ps 2 (pc' := 167) (lv' := [(0, .ref 159)]) (st' := [.int ((Int32.ofInt 3)), .ref 159]) rfl ?_
              have := (by decide : ((Int32.ofInt 3)).toInt = 3)
              refine En_callV rfl rfl rfl rfl rfl rfl rfl rfl tgz_159 (by decide +kernel) rfl (c_223x σ725 h726 ((Int32.ofInt 3)) (geI (by decide : (Int32.ofInt 3).toInt = 3) (by omega)) (leI (by decide : (Int32.ofInt 3).toInt = 3) (by omega)) y728 h729 h739) (by decide) (by decide) (fun v1418 σ1419 h1417 => ?_)
              obtain ⟨h1420, h1421, z1423, h1424, rfl, h1422⟩ := h1417
              have h1425 := h1422.2.2.2.2
              have h1426 := Fr_trans h727 h1421 (by decide +kernel)
              have h1427 := KF_fr h738 h1421 (by decide +kernel)
              obtain ⟨S1428, h1429⟩ : ∃ q : PS, q = err By Nb 3 (gN1 By Nb Sp) := ⟨_, rfl⟩
              have h1430 : ML By Nb σ1419 S1428 := by rw [h1429]; exact (ML_eq h1425 (err_cg (by omega)))
              have h1431 := ML_k h1430 h1424
              have h1432 : S1428.2.2.2 = (gN1 By Nb Sp).2.2.2 := by rw [h1429]; exact err_w
              obtain ⟨z1434, h1433, h1435, h1436⟩ := WT_peekI h1420 tgz_165 (by decide +kernel : FT 41 (5 : Int).toNat = (0, 0, 6)) (by decide +kernel)
              exact keyj170 σ1419 z1131 z1323 z1411 z1434 z1423 y732 h1420 h1426 ((h1421 _ _ (inWa tgz_165 (by decide +kernel))).trans h1130) (by omega) (by omega) ((h1421 _ _ (inWa tgz_165 (by decide +kernel))).trans h1322) (by omega) (by omega) ((h1421 _ _ (inWa tgz_165 (by decide +kernel))).trans h1410) (by omega) (by omega) h1433 (by omega) (by omega) h1424 (by omega) (by omega) ((h1421 _ _ (inW tgz_159 (by decide +kernel))).trans h733) (by omega) (by omega) (by omega) (fun _ => by have := Imp_m h737 (by omega); omega) (fun _ => by omega) (fun _ => by omega) (fun _ => by have := Imp_m h737 (by omega); omega) (fun _ => by have := Imp_m h737 (by omega); omega) (h1427) (ML_eq h1430 (by subst h1429; exact (gN2_pos (by omega)).symm))
            · refine En_Ps 1 (pc' := 146) (lv' := [(0, .ref 159)]) (st' := [.ref 159]) rfl ?_
              refine En_ldcS (i := 1) rfl rfl rfl ?_
              refine En_callV rfl rfl rfl rfl rfl rfl rfl rfl tgz_159 (by decide +kernel) rfl (c_251s1x σ725 h726 h739) (by decide) (by decide) (fun v1438 σ1439 h1437 => ?_)
              obtain ⟨h1440, h1441, z1443, rfl, h1442⟩ := h1437
              have h1444 := h1442.2.2
              obtain rfl : σ725 = σ1439 := Fr_nil h1441
              refine En_iEq _ rfl rfl (fun h1445 => ?_) (fun h1445 => ?_)
              · obtain ⟨z1447, h1446, h1448, h1449⟩ := WT_peekI h726 tgz_165 (by decide +kernel : FT 41 (5 : Int).toNat = (0, 0, 6)) (by decide +kernel)
                exact keyj170 σ725 z1131 z1323 z1411 z1447 y728 y732 h726 h727 h1130 (by omega) (by omega) h1322 (by omega) (by omega) h1410 (by omega) (by omega) h1446 (by omega) (by omega) h729 (by omega) (by omega) h733 (by omega) (by omega) (by omega) (fun _ => by have := Imp_m h737 (by omega); omega) (fun hh => by have zz : (gN1 By Nb Sp).1 = 0 := (by omega); have j1 := Imp_m h741 zz; have j2 := Imp_m h742 zz; have j3 := Imp_m h743 zz; have j4 := Imp_m h744 zz; omega) (fun hh => by have zz : (gN1 By Nb Sp).1 = 0 := (by omega); have j1 := Imp_m h741 zz; have j2 := Imp_m h742 zz; have j3 := Imp_m h743 zz; have j4 := Imp_m h744 zz; omega) (fun hh => by have zz : (gN1 By Nb Sp).1 = 0 := (by omega); have j1 := Imp_m h741 zz; have j2 := Imp_m h742 zz; have j3 := Imp_m h743 zz; have j4 := Imp_m h744 zz; omega) (fun hh => by have := Imp_m h737 (by omega); have zz : (gN1 By Nb Sp).1 = 0 := (by omega); have j1 := Imp_m h741 zz; have j2 := Imp_m h742 zz; have j3 := Imp_m h743 zz; have j4 := Imp_m h744 zz; omega) (h738) (ML_eq h739 (gN2_neg (by omega)).symm)
              · refine En_Ps 1 (pc' := 155) (lv' := [(0, .ref 159)]) (st' := [.ref 159]) rfl ?_
                refine En_getK (j := 14) h1128 rfl rfl rfl tgz_159 (by decide +kernel) ?_
                refine En_Ps 1 (pc' := 159) (lv' := [(0, .ref 159)]) (st' := [.int ((Int32.ofInt 5)), .ref 165]) rfl ?_
                refine En_iald (l := 0) (u := 6) rfl (by decide : (Int32.ofInt 5).toInt = 5) tgz_165 (by decide +kernel) h726 (by omega) (lnI (by decide +kernel : LN _ = 226) (by omega)) (by decide +kernel) (fun z1451 h1450 h1452 h1453 => ?_)
                have h1455 : (gN1 By Nb Sp).1 = 0 := iW_g (i := 1) (B := By) (n := Nb) (by omega)
                have h1454 : (gN1 By Nb Sp).2.2.2 5 = z1451.toInt := ML_wi h739 h1455 h1450 (by omega) (by omega) (by omega)
                refine En_Ps 1 (pc' := 162) (lv' := [(0, .ref 159)]) (st' := [.int (((Int8.ofInt 6).toInt32)), .int z1451]) rfl ?_
                refine En_icNe _ rfl (by decide : ((Int8.ofInt 6).toInt32).toInt = 6) rfl (fun h1456 => ?_) (fun h1456 => ?_)
                · exact keyj170 σ725 z1131 z1323 z1411 z1451 y728 y732 h726 h727 h1130 (by omega) (by omega) h1322 (by omega) (by omega) h1410 (by omega) (by omega) h1450 (by omega) (by omega) h729 (by omega) (by omega) h733 (by omega) (by omega) (by omega) (fun _ => by have := Imp_m h737 (by omega); omega) (fun hh => by have zz : (gN1 By Nb Sp).1 = 0 := (by omega); have j1 := Imp_m h741 zz; have j2 := Imp_m h742 zz; have j3 := Imp_m h743 zz; have j4 := Imp_m h744 zz; omega) (fun hh => by have zz : (gN1 By Nb Sp).1 = 0 := (by omega); have j1 := Imp_m h741 zz; have j2 := Imp_m h742 zz; have j3 := Imp_m h743 zz; have j4 := Imp_m h744 zz; omega) (fun hh => by have zz : (gN1 By Nb Sp).1 = 0 := (by omega); have j1 := Imp_m h741 zz; have j2 := Imp_m h742 zz; have j3 := Imp_m h743 zz; have j4 := Imp_m h744 zz; omega) (fun hh => by have zz : (gN1 By Nb Sp).1 = 0 := (by omega); have j1 := Imp_m h741 zz; have j2 := Imp_m h742 zz; have j3 := Imp_m h743 zz; have j4 := Imp_m h744 zz; omega) (h738) (ML_eq h739 (gN2_neg (by omega)).symm)
                · refine En_Ps 2 (pc' := 167) (lv' := [(0, .ref 159)]) (st' := [.int ((Int32.ofInt 3)), .ref 159]) rfl ?_
                  have := (by decide : ((Int32.ofInt 3)).toInt = 3)
                  refine En_callV rfl rfl rfl rfl rfl rfl rfl rfl tgz_159 (by decide +kernel) rfl (c_223x σ725 h726 ((Int32.ofInt 3)) (geI (by decide : (Int32.ofInt 3).toInt = 3) (by omega)) (leI (by decide : (Int32.ofInt 3).toInt = 3) (by omega)) y728 h729 h739) (by decide) (by decide) (fun v1458 σ1459 h1457 => ?_)
                  obtain ⟨h1460, h1461, z1463, h1464, rfl, h1462⟩ := h1457
                  have h1465 := h1462.2.2.2.2
                  have h1466 := Fr_trans h727 h1461 (by decide +kernel)
                  have h1467 := KF_fr h738 h1461 (by decide +kernel)
                  obtain ⟨S1468, h1469⟩ : ∃ q : PS, q = err By Nb 3 (gN1 By Nb Sp) := ⟨_, rfl⟩
                  have h1470 : ML By Nb σ1459 S1468 := by rw [h1469]; exact (ML_eq h1465 (err_cg (by omega)))
                  have h1471 := ML_k h1470 h1464
                  have h1472 : S1468.2.2.2 = (gN1 By Nb Sp).2.2.2 := by rw [h1469]; exact err_w
                  exact keyj170 σ1459 z1131 z1323 z1411 z1451 z1463 y732 h1460 h1466 ((h1461 _ _ (inWa tgz_165 (by decide +kernel))).trans h1130) (by omega) (by omega) ((h1461 _ _ (inWa tgz_165 (by decide +kernel))).trans h1322) (by omega) (by omega) ((h1461 _ _ (inWa tgz_165 (by decide +kernel))).trans h1410) (by omega) (by omega) ((h1461 _ _ (inWa tgz_165 (by decide +kernel))).trans h1450) (by omega) (by omega) h1464 (by omega) (by omega) ((h1461 _ _ (inW tgz_159 (by decide +kernel))).trans h733) (by omega) (by omega) (by omega) (fun _ => by have := Imp_m h737 (by omega); omega) (fun _ => by omega) (fun _ => by omega) (fun _ => by omega) (fun _ => by have := Imp_m h737 (by omega); omega) (h1467) (ML_eq h1470 (by subst h1469; exact (gN2_pos (by omega)).symm))
set_option maxRecDepth 10000 in
set_option maxHeartbeats 4000000 in
theorem c_302x {By : Int → Int} {Nb : Int} {Sp : PS} (σ0 : SG) (hσ0 : WT σ0) (f : Int32) (h_f : (σ0 159)[8]? = some (.int f)) (k : Int32) (h_k : (σ0 159)[12]? = some (.int k)) (hM : ML By Nb σ0 Sp) (hg : Sp.1 = 0) : En 9 200 none mr_302 (P_302x σ0 By Nb Sp f k) 0 [(0, .ref 159)] [] σ0 := by
  obtain ⟨hl_f, hu_f⟩ := WT_int hσ0 (g := 35) (by decide +kernel) (by decide +kernel) (l := 0) (u := 1600) (by decide +kernel) h_f
  obtain ⟨hl_k, hu_k⟩ := WT_int hσ0 (g := 35) (by decide +kernel) (by decide +kernel) (l := 0) (u := 3) (by decide +kernel) h_k
  have hF0 : Fr [(35, 8), (35, 9), (35, 10), (35, 11), (35, 12), (35, 13), (41, 0)] σ0 σ0 := Fr_rfl
  have keyj87 := k_302x_87 σ0 hσ0 f h_f k h_k hM hg
  have h1473 := ML_k hM h_k
  refine En_Ps 1 (pc' := 1) (lv' := [(0, .ref 159)]) (st' := [.ref 159]) rfl ?_
  refine En_ldcS (i := 2) rfl rfl rfl ?_
  refine En_callV rfl rfl rfl rfl rfl rfl rfl rfl tgz_159 (by decide +kernel) rfl (c_251s2x σ0 hσ0 hM) (by decide) (by decide) (fun v1475 σ1476 h1474 => ?_)
  obtain ⟨h1477, h1478, z1480, rfl, h1479⟩ := h1474
  have h1481 := h1479.2.2
  obtain rfl : σ0 = σ1476 := Fr_nil h1478
  refine En_iNe _ rfl rfl (fun h1482 => ?_) (fun h1482 => ?_)
  · refine En_Ps 4 (pc' := 79) (lv' := [(1, .int ((Int32.ofInt 1))), (0, .ref 159)]) (st' := [.int ((Int32.ofInt 1))]) rfl ?_
    refine En_iNe _ (by decide : (Int32.ofInt 1).toInt = 1) rfl (fun h1483 => ?_) (fun hx => by exfalso; omega)
    refine En_lv (lv := [(0, .ref 159)]) ⟨rfl, trivial⟩ ?_
    exact keyj87 σ0 k f hσ0 hF0 h_k (by omega) (by omega) h_f (by omega) (by omega) (by omega) (fun _ => by omega) ((KF_0 (σ := σ0))) (ML_eq hM (gN1_pos 2 (by omega) (by omega)).symm)
  · refine En_Ps 1 (pc' := 10) (lv' := [(0, .ref 159)]) (st' := [.ref 159]) rfl ?_
    refine En_ldcS (i := 6) rfl rfl rfl ?_
    refine En_callV rfl rfl rfl rfl rfl rfl rfl rfl tgz_159 (by decide +kernel) rfl (c_251s6x σ0 hσ0 hM) (by decide) (by decide) (fun v1485 σ1486 h1484 => ?_)
    obtain ⟨h1487, h1488, z1490, rfl, h1489⟩ := h1484
    have h1491 := h1489.2.2
    obtain rfl : σ0 = σ1486 := Fr_nil h1488
    refine En_iNe _ rfl rfl (fun h1492 => ?_) (fun h1492 => ?_)
    · refine En_Ps 4 (pc' := 79) (lv' := [(1, .int ((Int32.ofInt 1))), (0, .ref 159)]) (st' := [.int ((Int32.ofInt 1))]) rfl ?_
      refine En_iNe _ (by decide : (Int32.ofInt 1).toInt = 1) rfl (fun h1493 => ?_) (fun hx => by exfalso; omega)
      refine En_lv (lv := [(0, .ref 159)]) ⟨rfl, trivial⟩ ?_
      exact keyj87 σ0 k f hσ0 hF0 h_k (by omega) (by omega) h_f (by omega) (by omega) (by omega) (fun _ => by omega) ((KF_0 (σ := σ0))) (ML_eq hM (gN1_pos 6 (by omega) (by omega)).symm)
    · refine En_Ps 1 (pc' := 19) (lv' := [(0, .ref 159)]) (st' := [.ref 159]) rfl ?_
      refine En_ldcS (i := 3) rfl rfl rfl ?_
      refine En_callV rfl rfl rfl rfl rfl rfl rfl rfl tgz_159 (by decide +kernel) rfl (c_251s3x σ0 hσ0 hM) (by decide) (by decide) (fun v1495 σ1496 h1494 => ?_)
      obtain ⟨h1497, h1498, z1500, rfl, h1499⟩ := h1494
      have h1501 := h1499.2.2
      obtain rfl : σ0 = σ1496 := Fr_nil h1498
      refine En_iNe _ rfl rfl (fun h1502 => ?_) (fun h1502 => ?_)
      · refine En_Ps 4 (pc' := 79) (lv' := [(1, .int ((Int32.ofInt 1))), (0, .ref 159)]) (st' := [.int ((Int32.ofInt 1))]) rfl ?_
        refine En_iNe _ (by decide : (Int32.ofInt 1).toInt = 1) rfl (fun h1503 => ?_) (fun hx => by exfalso; omega)
        refine En_lv (lv := [(0, .ref 159)]) ⟨rfl, trivial⟩ ?_
        exact keyj87 σ0 k f hσ0 hF0 h_k (by omega) (by omega) h_f (by omega) (by omega) (by omega) (fun _ => by omega) ((KF_0 (σ := σ0))) (ML_eq hM (gN1_pos 3 (by omega) (by omega)).symm)
      · refine En_Ps 1 (pc' := 28) (lv' := [(0, .ref 159)]) (st' := [.ref 159]) rfl ?_
        refine En_ldcS (i := 17) rfl rfl rfl ?_
        refine En_callV rfl rfl rfl rfl rfl rfl rfl rfl tgz_159 (by decide +kernel) rfl (c_251s17x σ0 hσ0 hM) (by decide) (by decide) (fun v1505 σ1506 h1504 => ?_)
        obtain ⟨h1507, h1508, z1510, rfl, h1509⟩ := h1504
        have h1511 := h1509.2.2
        obtain rfl : σ0 = σ1506 := Fr_nil h1508
        refine En_iNe _ rfl rfl (fun h1512 => ?_) (fun h1512 => ?_)
        · refine En_Ps 4 (pc' := 79) (lv' := [(1, .int ((Int32.ofInt 1))), (0, .ref 159)]) (st' := [.int ((Int32.ofInt 1))]) rfl ?_
          refine En_iNe _ (by decide : (Int32.ofInt 1).toInt = 1) rfl (fun h1513 => ?_) (fun hx => by exfalso; omega)
          refine En_lv (lv := [(0, .ref 159)]) ⟨rfl, trivial⟩ ?_
          exact keyj87 σ0 k f hσ0 hF0 h_k (by omega) (by omega) h_f (by omega) (by omega) (by omega) (fun _ => by omega) ((KF_0 (σ := σ0))) (ML_eq hM (gN1_pos 17 (by omega) (by omega)).symm)
        · refine En_Ps 1 (pc' := 37) (lv' := [(0, .ref 159)]) (st' := [.ref 159]) rfl ?_
          refine En_ldcS (i := 9) rfl rfl rfl ?_
          refine En_callV rfl rfl rfl rfl rfl rfl rfl rfl tgz_159 (by decide +kernel) rfl (c_251s9x σ0 hσ0 hM) (by decide) (by decide) (fun v1515 σ1516 h1514 => ?_)
          obtain ⟨h1517, h1518, z1520, rfl, h1519⟩ := h1514
          have h1521 := h1519.2.2
          obtain rfl : σ0 = σ1516 := Fr_nil h1518
          refine En_iNe _ rfl rfl (fun h1522 => ?_) (fun h1522 => ?_)
          · refine En_Ps 4 (pc' := 79) (lv' := [(1, .int ((Int32.ofInt 1))), (0, .ref 159)]) (st' := [.int ((Int32.ofInt 1))]) rfl ?_
            refine En_iNe _ (by decide : (Int32.ofInt 1).toInt = 1) rfl (fun h1523 => ?_) (fun hx => by exfalso; omega)
            refine En_lv (lv := [(0, .ref 159)]) ⟨rfl, trivial⟩ ?_
            exact keyj87 σ0 k f hσ0 hF0 h_k (by omega) (by omega) h_f (by omega) (by omega) (by omega) (fun _ => by omega) ((KF_0 (σ := σ0))) (ML_eq hM (gN1_pos 9 (by omega) (by omega)).symm)
          · refine En_Ps 1 (pc' := 46) (lv' := [(0, .ref 159)]) (st' := [.ref 159]) rfl ?_
            refine En_ldcS (i := 5) rfl rfl rfl ?_
            refine En_callV rfl rfl rfl rfl rfl rfl rfl rfl tgz_159 (by decide +kernel) rfl (c_251s5x σ0 hσ0 hM) (by decide) (by decide) (fun v1525 σ1526 h1524 => ?_)
            obtain ⟨h1527, h1528, z1530, rfl, h1529⟩ := h1524
            have h1531 := h1529.2.2
            obtain rfl : σ0 = σ1526 := Fr_nil h1528
            refine En_iNe _ rfl rfl (fun h1532 => ?_) (fun h1532 => ?_)
            · refine En_Ps 4 (pc' := 79) (lv' := [(1, .int ((Int32.ofInt 1))), (0, .ref 159)]) (st' := [.int ((Int32.ofInt 1))]) rfl ?_
              refine En_iNe _ (by decide : (Int32.ofInt 1).toInt = 1) rfl (fun h1533 => ?_) (fun hx => by exfalso; omega)
              refine En_lv (lv := [(0, .ref 159)]) ⟨rfl, trivial⟩ ?_
              exact keyj87 σ0 k f hσ0 hF0 h_k (by omega) (by omega) h_f (by omega) (by omega) (by omega) (fun _ => by omega) ((KF_0 (σ := σ0))) (ML_eq hM (gN1_pos 5 (by omega) (by omega)).symm)
            · refine En_Ps 1 (pc' := 55) (lv' := [(0, .ref 159)]) (st' := [.ref 159]) rfl ?_
              refine En_ldcS (i := 1) rfl rfl rfl ?_
              refine En_callV rfl rfl rfl rfl rfl rfl rfl rfl tgz_159 (by decide +kernel) rfl (c_251s1x σ0 hσ0 hM) (by decide) (by decide) (fun v1535 σ1536 h1534 => ?_)
              obtain ⟨h1537, h1538, z1540, rfl, h1539⟩ := h1534
              have h1541 := h1539.2.2
              obtain rfl : σ0 = σ1536 := Fr_nil h1538
              refine En_iNe _ rfl rfl (fun h1542 => ?_) (fun h1542 => ?_)
              · refine En_Ps 4 (pc' := 79) (lv' := [(1, .int ((Int32.ofInt 1))), (0, .ref 159)]) (st' := [.int ((Int32.ofInt 1))]) rfl ?_
                refine En_iNe _ (by decide : (Int32.ofInt 1).toInt = 1) rfl (fun h1543 => ?_) (fun hx => by exfalso; omega)
                refine En_lv (lv := [(0, .ref 159)]) ⟨rfl, trivial⟩ ?_
                exact keyj87 σ0 k f hσ0 hF0 h_k (by omega) (by omega) h_f (by omega) (by omega) (by omega) (fun _ => by omega) ((KF_0 (σ := σ0))) (ML_eq hM (gN1_pos 1 (by omega) (by omega)).symm)
              · refine En_Ps 1 (pc' := 64) (lv' := [(0, .ref 159)]) (st' := [.ref 159]) rfl ?_
                refine En_ldcS (i := 0) rfl rfl rfl ?_
                refine En_callV rfl rfl rfl rfl rfl rfl rfl rfl tgz_159 (by decide +kernel) rfl (c_251s0x σ0 hσ0 hM) (by decide) (by decide) (fun v1545 σ1546 h1544 => ?_)
                obtain ⟨h1547, h1548, z1550, rfl, h1549⟩ := h1544
                have h1551 := h1549.2.2
                obtain rfl : σ0 = σ1546 := Fr_nil h1548
                refine En_iEq _ rfl rfl (fun h1552 => ?_) (fun h1552 => ?_)
                · refine En_Ps 3 (pc' := 79) (lv' := [(1, .int ((Int32.ofInt 0))), (0, .ref 159)]) (st' := [.int ((Int32.ofInt 0))]) rfl ?_
                  refine En_iNe _ (by decide : (Int32.ofInt 0).toInt = 0) rfl (fun hx => by exfalso; omega) (fun h1553 => ?_)
                  refine En_Ps 2 (pc' := 84) (lv' := [(1, .int ((Int32.ofInt 0))), (0, .ref 159)]) (st' := [.int ((Int32.ofInt 1)), .ref 159]) rfl ?_
                  have := (by decide : ((Int32.ofInt 1)).toInt = 1)
                  refine En_callV rfl rfl rfl rfl rfl rfl rfl rfl tgz_159 (by decide +kernel) rfl (c_223x σ0 hσ0 ((Int32.ofInt 1)) (geI (by decide : (Int32.ofInt 1).toInt = 1) (by omega)) (leI (by decide : (Int32.ofInt 1).toInt = 1) (by omega)) k h_k hM) (by decide) (by decide) (fun v1555 σ1556 h1554 => ?_)
                  obtain ⟨h1557, h1558, z1560, h1561, rfl, h1559⟩ := h1554
                  have h1562 := h1559.2.2.2.2
                  have h1563 := Fr_trans hF0 h1558 (by decide +kernel)
                  have h1564 := KF_fr (KF_0 (σ := σ0)) h1558 (by decide +kernel)
                  obtain ⟨S1565, h1566⟩ : ∃ q : PS, q = err By Nb 1 Sp := ⟨_, rfl⟩
                  have h1567 : ML By Nb σ1556 S1565 := by rw [h1566]; exact (ML_eq h1562 (err_cg (by omega)))
                  have h1568 := ML_k h1567 h1561
                  have h1569 : S1565.2.2.2 = Sp.2.2.2 := by rw [h1566]; exact err_w
                  refine En_lv (lv := [(0, .ref 159)]) ⟨rfl, trivial⟩ ?_
                  exact keyj87 σ1556 z1560 f h1557 h1563 h1561 (by omega) (by omega) ((h1558 _ _ (inW tgz_159 (by decide +kernel))).trans h_f) (by omega) (by omega) (by omega) (fun _ => by omega) (h1564) (ML_eq h1567 (by subst h1566; exact (gN1_neg (by omega) (by omega) (by omega) (by omega) (by omega) (by omega) (by omega) (by omega)).symm))
                · refine En_Ps 4 (pc' := 79) (lv' := [(1, .int ((Int32.ofInt 1))), (0, .ref 159)]) (st' := [.int ((Int32.ofInt 1))]) rfl ?_
                  refine En_iNe _ (by decide : (Int32.ofInt 1).toInt = 1) rfl (fun h1570 => ?_) (fun hx => by exfalso; omega)
                  refine En_lv (lv := [(0, .ref 159)]) ⟨rfl, trivial⟩ ?_
                  exact keyj87 σ0 k f hσ0 hF0 h_k (by omega) (by omega) h_f (by omega) (by omega) (by omega) (fun _ => by omega) ((KF_0 (σ := σ0))) (ML_eq hM (gN1_pos 0 (by omega) (by omega)).symm)

