/-! 32.m07 -/
section
set_option maxRecDepth 10000 in
set_option maxHeartbeats 4000000 in
theorem k_302x_87 {By : Int → Int} {Nb : Int} {Sp : PS} (σ0 : SG) (hσ0 : WT σ0) (f : Int32) (h_f : (σ0 159)[8]? = some (Value.int f)) (k : Int32) (h_k : (σ0 159)[12]? = some (Value.int k)) (hM : ML By Nb σ0 Sp) (hg : Sp.1 = 0) : ∀ (σ725 : SG) (y728 : Int32) (y732 : Int32), WT σ725 → Fr [(35, 8), (35, 9), (35, 10), (35, 11), (35, 12), (35, 13), (41, 0)] σ0 σ725 → (σ725 159)[12]? = some (Value.int y728) → 0 ≤ y728.toInt → y728.toInt ≤ 3 → (σ725 159)[8]? = some (Value.int y732) → 0 ≤ y732.toInt → y732.toInt ≤ 1600 → f.toInt - y732.toInt ≤ 0 → Imp (y728.toInt ≤ 0) (k.toInt ≤ 0) → KF σ0 σ725 → ML By Nb σ725 (gN1 By Nb Sp) → En 9 200 none mr_302 (P_302x σ0 By Nb Sp f k) 87 [(0, .ref 159)] [] σ725 := by
  obtain ⟨hl_f, hu_f⟩ := WT_int hσ0 (g := 35) (by decide +kernel) (by decide +kernel) (l := 0) (u := 1600) (by decide +kernel) h_f
  obtain ⟨hl_k, hu_k⟩ := WT_int hσ0 (g := 35) (by decide +kernel) (by decide +kernel) (l := 0) (u := 3) (by decide +kernel) h_k
  have hF0 : Fr [(35, 8), (35, 9), (35, 10), (35, 11), (35, 12), (35, 13), (41, 0)] σ0 σ0 := Fr_rfl
  have keyj170 := k_302x_170 σ0 hσ0 f h_f k h_k hM hg
  intro σ725 y728 y732 h726 h727 h729 h730 h731 h733 h734 h735 h736 h737 h738 h739
  have h740 := ML_k h739 h729
  have h741 : Imp ((gN1 By Nb Sp).1 = 0) (iW By Nb 2 (gN1 By Nb Sp) = iW By Nb 2 Sp) := gN1_iW
  have h742 : Imp ((gN1 By Nb Sp).1 = 0) (iW By Nb 3 (gN1 By Nb Sp) = iW By Nb 3 Sp) := gN1_iW
  have h743 : Imp ((gN1 By Nb Sp).1 = 0) (iW By Nb 5 (gN1 By Nb Sp) = iW By Nb 5 Sp) := gN1_iW
  have h744 : Imp ((gN1 By Nb Sp).1 = 0) (iW By Nb 1 (gN1 By Nb Sp) = iW By Nb 1 Sp) := gN1_iW
  refine En_Ps 1 (pc' := 88) (lv' := [(0, .ref 159)]) (st' := [.ref 159]) rfl ?_
  refine En_ldcS (i := 2) rfl rfl rfl ?_
  refine En_callV rfl rfl rfl rfl rfl rfl rfl rfl tgz_159 (by decide +kernel) rfl (c_251s2x σ725 h726 h739) (by decide) (by decide) (fun v746 σ747 h745 => ?_)
  obtain ⟨h748, h749, z751, rfl, h750⟩ := h745
  have h752 := h750.2.2
  obtain rfl : σ725 = σ747 := Fr_nil h749
  refine En_iEq _ rfl rfl (fun h753 => ?_) (fun h753 => ?_)
  · refine En_Ps 1 (pc' := 107) (lv' := [(0, .ref 159)]) (st' := [.ref 159]) rfl ?_
    refine En_ldcS (i := 3) rfl rfl rfl ?_
    refine En_callV rfl rfl rfl rfl rfl rfl rfl rfl tgz_159 (by decide +kernel) rfl (c_251s3x σ725 h726 h739) (by decide) (by decide) (fun v755 σ756 h754 => ?_)
    obtain ⟨h757, h758, z760, rfl, h759⟩ := h754
    have h761 := h759.2.2
    obtain rfl : σ725 = σ756 := Fr_nil h758
    refine En_iEq _ rfl rfl (fun h762 => ?_) (fun h762 => ?_)
    · refine En_Ps 1 (pc' := 127) (lv' := [(0, .ref 159)]) (st' := [.ref 159]) rfl ?_
      refine En_ldcS (i := 5) rfl rfl rfl ?_
      refine En_callV rfl rfl rfl rfl rfl rfl rfl rfl tgz_159 (by decide +kernel) rfl (c_251s5x σ725 h726 h739) (by decide) (by decide) (fun v764 σ765 h763 => ?_)
      obtain ⟨h766, h767, z769, rfl, h768⟩ := h763
      have h770 := h768.2.2
      obtain rfl : σ725 = σ765 := Fr_nil h767
      refine En_iEq _ rfl rfl (fun h771 => ?_) (fun h771 => ?_)
      · refine En_Ps 1 (pc' := 146) (lv' := [(0, .ref 159)]) (st' := [.ref 159]) rfl ?_
        refine En_ldcS (i := 1) rfl rfl rfl ?_
        refine En_callV rfl rfl rfl rfl rfl rfl rfl rfl tgz_159 (by decide +kernel) rfl (c_251s1x σ725 h726 h739) (by decide) (by decide) (fun v773 σ774 h772 => ?_)
        obtain ⟨h775, h776, z778, rfl, h777⟩ := h772
        have h779 := h777.2.2
        obtain rfl : σ725 = σ774 := Fr_nil h776
        refine En_iEq _ rfl rfl (fun h780 => ?_) (fun h780 => ?_)
        · obtain ⟨z782, h781, h783, h784⟩ := WT_peekI h726 tgz_165 (by decide +kernel : FT 41 (2 : Int).toNat = (0, 0, 4)) (by decide +kernel)
          obtain ⟨z786, h785, h787, h788⟩ := WT_peekI h726 tgz_165 (by decide +kernel : FT 41 (3 : Int).toNat = (0, 0, 12)) (by decide +kernel)
          obtain ⟨z790, h789, h791, h792⟩ := WT_peekI h726 tgz_165 (by decide +kernel : FT 41 (4 : Int).toNat = (0, 0, 4)) (by decide +kernel)
          obtain ⟨z794, h793, h795, h796⟩ := WT_peekI h726 tgz_165 (by decide +kernel : FT 41 (5 : Int).toNat = (0, 0, 6)) (by decide +kernel)
          exact keyj170 σ725 z782 z786 z790 z794 y728 y732 h726 h727 h781 (by first | exact q_58e6e51dcc h783 | omega) (by first | exact q_c82ed93a8c h784 | omega) h785 (by first | exact q_58e6e51dcc h787 | omega) (by first | exact q_7c77837619 h788 | omega) h789 (by first | exact q_58e6e51dcc h791 | omega) (by first | exact q_c82ed93a8c h792 | omega) h793 (by first | exact q_58e6e51dcc h795 | omega) (by first | exact q_615333d33f h796 | omega) h729 (by first | exact q_58e6e51dcc h730 | omega) (by first | exact q_da5e9b976f h731 | omega) h733 (by first | exact q_58e6e51dcc h734 | omega) (by first | exact q_246f9048f8 h735 | omega) (by (first | exact q_f67127b06c h736 | omega)) (fun _ => by have := Imp_m h737 (by omega); (first | exact q_35a72a35ef this | omega)) (fun hh => by have := Imp_m h737 (by (first | exact q_35a72a35ef hh.1 | omega)); have zz : (gN1 By Nb Sp).1 = 0 := (by (first | exact q_3331d1599b h740 h730 hh.1 | omega)); have j1 := Imp_m h741 zz; have j2 := Imp_m h742 zz; have j3 := Imp_m h743 zz; have j4 := Imp_m h744 zz; (first | exact q_9a56868a89 j1 hh.2 h753 h752 | omega)) (fun hh => by have := Imp_m h737 (by (first | exact q_35a72a35ef hh.1 | omega)); have zz : (gN1 By Nb Sp).1 = 0 := (by (first | exact q_3331d1599b h740 h730 hh.1 | omega)); have j1 := Imp_m h741 zz; have j2 := Imp_m h742 zz; have j3 := Imp_m h743 zz; have j4 := Imp_m h744 zz; (first | exact q_809026a008 j2 hh.2 h762 h761 | omega)) (fun hh => by have := Imp_m h737 (by (first | exact q_35a72a35ef hh.1 | omega)); have zz : (gN1 By Nb Sp).1 = 0 := (by (first | exact q_3331d1599b h740 h730 hh.1 | omega)); have j1 := Imp_m h741 zz; have j2 := Imp_m h742 zz; have j3 := Imp_m h743 zz; have j4 := Imp_m h744 zz; (first | exact q_9a56868a89 j3 hh.2 h771 h770 | omega)) (fun hh => by have := Imp_m h737 (by (first | exact q_35a72a35ef hh.1 | omega)); have zz : (gN1 By Nb Sp).1 = 0 := (by (first | exact q_3331d1599b h740 h730 hh.1 | omega)); have j1 := Imp_m h741 zz; have j2 := Imp_m h742 zz; have j3 := Imp_m h743 zz; have j4 := Imp_m h744 zz; (first | exact q_d615a55187 j4 hh.2 h780 h779 | omega)) (h738) (ML_eq h739 (gN2_neg (by (first | exact q_f2cf20e85a h752 h753 h761 h762 h770 h771 h779 h780 | omega))).symm)
        · refine En_Ps 1 (pc' := 155) (lv' := [(0, .ref 159)]) (st' := [.ref 159]) rfl ?_
          refine En_getU (j := 14) (u := 165) (g' := 41) (q := 0) rfl rfl rfl tgz_159 (by decide +kernel) h726 (by decide +kernel) un_41_165 (fun h797 => ?_)
          refine En_Ps 1 (pc' := 159) (lv' := [(0, .ref 159)]) (st' := [.int ((Int32.ofInt 5)), .ref 165]) rfl ?_
          refine En_iald (l := 0) (u := 6) rfl (by decide : (Int32.ofInt 5).toInt = 5) tgz_165 (by decide +kernel) h726 (by decide) (lnI (by decide +kernel : LN _ = 226) (by decide)) (by decide +kernel) (fun z800 h799 h801 h802 => ?_)
          have h804 : (gN1 By Nb Sp).1 = 0 := iW_g (i := 1) (B := By) (n := Nb) (by (first | exact q_8c31a76373 h780 h777.1 h779 h777.2.1 | omega))
          have h803 : (gN1 By Nb Sp).2.2.2 5 = z800.toInt := ML_wi h739 h804 h799 (by (first | decide | omega)) (by (first | decide | omega)) (by (first | decide | omega))
          refine En_Ps 1 (pc' := 162) (lv' := [(0, .ref 159)]) (st' := [.int (((Int8.ofInt 6).toInt32)), .int z800]) rfl ?_
          refine En_icNe _ rfl (by decide : ((Int8.ofInt 6).toInt32).toInt = 6) rfl (fun h805 => ?_) (fun h805 => ?_)
          · obtain ⟨z807, h806, h808, h809⟩ := WT_peekI h726 tgz_165 (by decide +kernel : FT 41 (2 : Int).toNat = (0, 0, 4)) (by decide +kernel)
            obtain ⟨z811, h810, h812, h813⟩ := WT_peekI h726 tgz_165 (by decide +kernel : FT 41 (3 : Int).toNat = (0, 0, 12)) (by decide +kernel)
            obtain ⟨z815, h814, h816, h817⟩ := WT_peekI h726 tgz_165 (by decide +kernel : FT 41 (4 : Int).toNat = (0, 0, 4)) (by decide +kernel)
            exact keyj170 σ725 z807 z811 z815 z800 y728 y732 h726 h727 h806 (by first | exact q_58e6e51dcc h808 | omega) (by first | exact q_c82ed93a8c h809 | omega) h810 (by first | exact q_58e6e51dcc h812 | omega) (by first | exact q_7c77837619 h813 | omega) h814 (by first | exact q_58e6e51dcc h816 | omega) (by first | exact q_c82ed93a8c h817 | omega) h799 (by first | exact q_58e6e51dcc h801 | omega) (by first | exact q_b7df4df08f h805 h802 | omega) h729 (by first | exact q_58e6e51dcc h730 | omega) (by first | exact q_da5e9b976f h731 | omega) h733 (by first | exact q_58e6e51dcc h734 | omega) (by first | exact q_246f9048f8 h735 | omega) (by (first | exact q_f67127b06c h736 | omega)) (fun _ => by have := Imp_m h737 (by (first | exact q_d8d8e6600d h740 h804 | omega)); (first | exact q_35a72a35ef this | omega)) (fun hh => by have := Imp_m h737 (by (first | exact q_35a72a35ef hh.1 | omega)); have zz : (gN1 By Nb Sp).1 = 0 := (by (first | exact q_d2dcd30e56 h804 | omega)); have j1 := Imp_m h741 zz; have j2 := Imp_m h742 zz; have j3 := Imp_m h743 zz; have j4 := Imp_m h744 zz; (first | exact q_9a56868a89 j1 hh.2 h753 h752 | omega)) (fun hh => by have := Imp_m h737 (by (first | exact q_35a72a35ef hh.1 | omega)); have zz : (gN1 By Nb Sp).1 = 0 := (by (first | exact q_d2dcd30e56 h804 | omega)); have j1 := Imp_m h741 zz; have j2 := Imp_m h742 zz; have j3 := Imp_m h743 zz; have j4 := Imp_m h744 zz; (first | exact q_809026a008 j2 hh.2 h762 h761 | omega)) (fun hh => by have := Imp_m h737 (by (first | exact q_35a72a35ef hh.1 | omega)); have zz : (gN1 By Nb Sp).1 = 0 := (by (first | exact q_d2dcd30e56 h804 | omega)); have j1 := Imp_m h741 zz; have j2 := Imp_m h742 zz; have j3 := Imp_m h743 zz; have j4 := Imp_m h744 zz; (first | exact q_9a56868a89 j3 hh.2 h771 h770 | omega)) (fun hh => by have zz : (gN1 By Nb Sp).1 = 0 := (by (first | exact q_d2dcd30e56 h804 | omega)); have j1 := Imp_m h741 zz; have j2 := Imp_m h742 zz; have j3 := Imp_m h743 zz; have j4 := Imp_m h744 zz; (first | exact q_9f42007399 h805 h802 | omega)) (h738) (ML_eq h739 (gN2_neg (by (first | exact q_3c79eb0b78 h752 h753 h761 h762 h770 h771 h803 h805 h802 | omega))).symm)
          · refine En_Ps 2 (pc' := 167) (lv' := [(0, .ref 159)]) (st' := [.int ((Int32.ofInt 3)), .ref 159]) rfl ?_
            have := (by decide : ((Int32.ofInt 3)).toInt = 3)
            refine En_callV rfl rfl rfl rfl rfl rfl rfl rfl tgz_159 (by decide +kernel) rfl (c_223x σ725 h726 ((Int32.ofInt 3)) (geI (by decide : (Int32.ofInt 3).toInt = 3) (by decide)) (leI (by decide : (Int32.ofInt 3).toInt = 3) (by decide)) y728 h729 h739) (by decide) (by decide) (fun v819 σ820 h818 => ?_)
            obtain ⟨h821, h822, z824, h825, rfl, h823⟩ := h818
            have h826 := h823.2.2.2.2
            have h827 := Fr_trans h727 h822 (by decide +kernel)
            have h828 := KF_fr h738 h822 (by decide +kernel)
            obtain ⟨S829, h830⟩ : ∃ q : PS, q = err By Nb 3 (gN1 By Nb Sp) := ⟨_, rfl⟩
            have h831 : ML By Nb σ820 S829 := by rw [h830]; exact (ML_eq h826 (err_cg (by (first | exact q_5736040b52 this | omega))))
            have h832 := ML_k h831 h825
            have h833 : S829.2.2.2 = (gN1 By Nb Sp).2.2.2 := by rw [h830]; exact err_w
            obtain ⟨z835, h834, h836, h837⟩ := WT_peekI h821 tgz_165 (by decide +kernel : FT 41 (2 : Int).toNat = (0, 0, 4)) (by decide +kernel)
            obtain ⟨z839, h838, h840, h841⟩ := WT_peekI h821 tgz_165 (by decide +kernel : FT 41 (3 : Int).toNat = (0, 0, 12)) (by decide +kernel)
            obtain ⟨z843, h842, h844, h845⟩ := WT_peekI h821 tgz_165 (by decide +kernel : FT 41 (4 : Int).toNat = (0, 0, 4)) (by decide +kernel)
            exact keyj170 σ820 z835 z839 z843 z800 z824 y732 h821 h827 h834 (by first | exact q_58e6e51dcc h836 | omega) (by first | exact q_c82ed93a8c h837 | omega) h838 (by first | exact q_58e6e51dcc h840 | omega) (by first | exact q_7c77837619 h841 | omega) h842 (by first | exact q_58e6e51dcc h844 | omega) (by first | exact q_c82ed93a8c h845 | omega) ((h822 _ _ (inWa tgz_165 (by decide +kernel))).trans h799) (by first | exact q_b2cec3a713 h805 | omega) (by first | exact q_615333d33f h802 | omega) h825 (by first | exact q_996aa4c518 h823.1 | omega) (by first | exact q_87d9217d84 h823.2.1 | omega) ((h822 _ _ (inW tgz_159 (by decide +kernel))).trans h733) (by first | exact q_58e6e51dcc h734 | omega) (by first | exact q_246f9048f8 h735 | omega) (by (first | exact q_f67127b06c h736 | omega)) (fun _ => by have := Imp_m h737 (by (first | exact q_d8d8e6600d h740 h804 | omega)); (first | exact q_35a72a35ef this | omega)) (fun _ => by have := Imp_m h737 (by (first | exact q_d8d8e6600d h740 h804 | omega)); omega) (fun _ => by have := Imp_m h737 (by (first | exact q_d8d8e6600d h740 h804 | omega)); omega) (fun _ => by have := Imp_m h737 (by (first | exact q_d8d8e6600d h740 h804 | omega)); omega) (fun _ => by have := Imp_m h737 (by (first | exact q_d8d8e6600d h740 h804 | omega)); omega) (h828) (ML_eq h831 (by subst h830; exact (gN2_pos (by (first | exact q_80b45e2ff9 h779 h780 h777.1 h777.2.1 h803 h805 | omega))).symm))
      · refine En_Ps 1 (pc' := 136) (lv' := [(0, .ref 159)]) (st' := [.ref 159]) rfl ?_
        refine En_getU (j := 14) (u := 165) (g' := 41) (q := 0) rfl rfl rfl tgz_159 (by decide +kernel) h726 (by decide +kernel) un_41_165 (fun h846 => ?_)
        refine En_Ps 1 (pc' := 140) (lv' := [(0, .ref 159)]) (st' := [.int ((Int32.ofInt 4)), .ref 165]) rfl ?_
        refine En_iald (l := 0) (u := 4) rfl (by decide : (Int32.ofInt 4).toInt = 4) tgz_165 (by decide +kernel) h726 (by decide) (lnI (by decide +kernel : LN _ = 226) (by decide)) (by decide +kernel) (fun z849 h848 h850 h851 => ?_)
        have h853 : (gN1 By Nb Sp).1 = 0 := iW_g (i := 5) (B := By) (n := Nb) (by (first | exact q_8c31a76373 h771 h768.1 h770 h768.2.1 | omega))
        have h852 : (gN1 By Nb Sp).2.2.2 4 = z849.toInt := ML_wi h739 h853 h848 (by (first | decide | omega)) (by (first | decide | omega)) (by (first | decide | omega))
        refine En_Ps 1 (pc' := 142) (lv' := [(0, .ref 159)]) (st' := [.int ((Int32.ofInt 4)), .int z849]) rfl ?_
        refine En_icEq _ rfl (by decide : (Int32.ofInt 4).toInt = 4) rfl (fun h854 => ?_) (fun h854 => ?_)
        · refine En_Ps 2 (pc' := 167) (lv' := [(0, .ref 159)]) (st' := [.int ((Int32.ofInt 3)), .ref 159]) rfl ?_
          have := (by decide : ((Int32.ofInt 3)).toInt = 3)
          refine En_callV rfl rfl rfl rfl rfl rfl rfl rfl tgz_159 (by decide +kernel) rfl (c_223x σ725 h726 ((Int32.ofInt 3)) (geI (by decide : (Int32.ofInt 3).toInt = 3) (by decide)) (leI (by decide : (Int32.ofInt 3).toInt = 3) (by decide)) y728 h729 h739) (by decide) (by decide) (fun v856 σ857 h855 => ?_)
          obtain ⟨h858, h859, z861, h862, rfl, h860⟩ := h855
          have h863 := h860.2.2.2.2
          have h864 := Fr_trans h727 h859 (by decide +kernel)
          have h865 := KF_fr h738 h859 (by decide +kernel)
          obtain ⟨S866, h867⟩ : ∃ q : PS, q = err By Nb 3 (gN1 By Nb Sp) := ⟨_, rfl⟩
          have h868 : ML By Nb σ857 S866 := by rw [h867]; exact (ML_eq h863 (err_cg (by (first | exact q_5736040b52 this | omega))))
          have h869 := ML_k h868 h862
          have h870 : S866.2.2.2 = (gN1 By Nb Sp).2.2.2 := by rw [h867]; exact err_w
          obtain ⟨z872, h871, h873, h874⟩ := WT_peekI h858 tgz_165 (by decide +kernel : FT 41 (2 : Int).toNat = (0, 0, 4)) (by decide +kernel)
          obtain ⟨z876, h875, h877, h878⟩ := WT_peekI h858 tgz_165 (by decide +kernel : FT 41 (3 : Int).toNat = (0, 0, 12)) (by decide +kernel)
          obtain ⟨z880, h879, h881, h882⟩ := WT_peekI h858 tgz_165 (by decide +kernel : FT 41 (5 : Int).toNat = (0, 0, 6)) (by decide +kernel)
          exact keyj170 σ857 z872 z876 z849 z880 z861 y732 h858 h864 h871 (by first | exact q_58e6e51dcc h873 | omega) (by first | exact q_c82ed93a8c h874 | omega) h875 (by first | exact q_58e6e51dcc h877 | omega) (by first | exact q_7c77837619 h878 | omega) ((h859 _ _ (inWa tgz_165 (by decide +kernel))).trans h848) (by first | exact q_8aa6573b50 h854 | omega) (by first | exact q_c82ed93a8c h851 | omega) h879 (by first | exact q_58e6e51dcc h881 | omega) (by first | exact q_615333d33f h882 | omega) h862 (by first | exact q_996aa4c518 h860.1 | omega) (by first | exact q_87d9217d84 h860.2.1 | omega) ((h859 _ _ (inW tgz_159 (by decide +kernel))).trans h733) (by first | exact q_58e6e51dcc h734 | omega) (by first | exact q_246f9048f8 h735 | omega) (by (first | exact q_f67127b06c h736 | omega)) (fun _ => by have := Imp_m h737 (by (first | exact q_d8d8e6600d h740 h853 | omega)); (first | exact q_35a72a35ef this | omega)) (fun _ => by have := Imp_m h737 (by (first | exact q_d8d8e6600d h740 h853 | omega)); omega) (fun _ => by have := Imp_m h737 (by (first | exact q_d8d8e6600d h740 h853 | omega)); omega) (fun _ => by have := Imp_m h737 (by (first | exact q_d8d8e6600d h740 h853 | omega)); omega) (fun _ => by have := Imp_m h737 (by (first | exact q_d8d8e6600d h740 h853 | omega)); omega) (h865) (ML_eq h868 (by subst h867; exact (gN2_pos (by (first | exact q_cf7049a829 h770 h771 h768.1 h768.2.1 h852 h854 | omega))).symm))
        · refine En_Ps 1 (pc' := 146) (lv' := [(0, .ref 159)]) (st' := [.ref 159]) rfl ?_
          refine En_ldcS (i := 1) rfl rfl rfl ?_
          refine En_callV rfl rfl rfl rfl rfl rfl rfl rfl tgz_159 (by decide +kernel) rfl (c_251s1x σ725 h726 h739) (by decide) (by decide) (fun v884 σ885 h883 => ?_)
          obtain ⟨h886, h887, z889, rfl, h888⟩ := h883
          have h890 := h888.2.2
          obtain rfl : σ725 = σ885 := Fr_nil h887
          refine En_iEq _ rfl rfl (fun h891 => ?_) (fun h891 => ?_)
          · obtain ⟨z893, h892, h894, h895⟩ := WT_peekI h726 tgz_165 (by decide +kernel : FT 41 (2 : Int).toNat = (0, 0, 4)) (by decide +kernel)
            obtain ⟨z897, h896, h898, h899⟩ := WT_peekI h726 tgz_165 (by decide +kernel : FT 41 (3 : Int).toNat = (0, 0, 12)) (by decide +kernel)
            obtain ⟨z901, h900, h902, h903⟩ := WT_peekI h726 tgz_165 (by decide +kernel : FT 41 (5 : Int).toNat = (0, 0, 6)) (by decide +kernel)
            exact keyj170 σ725 z893 z897 z849 z901 y728 y732 h726 h727 h892 (by first | exact q_58e6e51dcc h894 | omega) (by first | exact q_c82ed93a8c h895 | omega) h896 (by first | exact q_58e6e51dcc h898 | omega) (by first | exact q_7c77837619 h899 | omega) h848 (by first | exact q_58e6e51dcc h850 | omega) (by first | exact q_4b59c54ff8 h854 h851 | omega) h900 (by first | exact q_58e6e51dcc h902 | omega) (by first | exact q_615333d33f h903 | omega) h729 (by first | exact q_58e6e51dcc h730 | omega) (by first | exact q_da5e9b976f h731 | omega) h733 (by first | exact q_58e6e51dcc h734 | omega) (by first | exact q_246f9048f8 h735 | omega) (by (first | exact q_f67127b06c h736 | omega)) (fun _ => by have := Imp_m h737 (by (first | exact q_d8d8e6600d h740 h853 | omega)); (first | exact q_35a72a35ef this | omega)) (fun hh => by have := Imp_m h737 (by (first | exact q_35a72a35ef hh.1 | omega)); have zz : (gN1 By Nb Sp).1 = 0 := (by (first | exact q_d2dcd30e56 h853 | omega)); have j1 := Imp_m h741 zz; have j2 := Imp_m h742 zz; have j3 := Imp_m h743 zz; have j4 := Imp_m h744 zz; (first | exact q_9a56868a89 j1 hh.2 h753 h752 | omega)) (fun hh => by have := Imp_m h737 (by (first | exact q_35a72a35ef hh.1 | omega)); have zz : (gN1 By Nb Sp).1 = 0 := (by (first | exact q_d2dcd30e56 h853 | omega)); have j1 := Imp_m h741 zz; have j2 := Imp_m h742 zz; have j3 := Imp_m h743 zz; have j4 := Imp_m h744 zz; (first | exact q_809026a008 j2 hh.2 h762 h761 | omega)) (fun hh => by have zz : (gN1 By Nb Sp).1 = 0 := (by (first | exact q_d2dcd30e56 h853 | omega)); have j1 := Imp_m h741 zz; have j2 := Imp_m h742 zz; have j3 := Imp_m h743 zz; have j4 := Imp_m h744 zz; (first | exact q_1065cca776 h854 h851 | omega)) (fun hh => by have := Imp_m h737 (by (first | exact q_35a72a35ef hh.1 | omega)); have zz : (gN1 By Nb Sp).1 = 0 := (by (first | exact q_d2dcd30e56 h853 | omega)); have j1 := Imp_m h741 zz; have j2 := Imp_m h742 zz; have j3 := Imp_m h743 zz; have j4 := Imp_m h744 zz; (first | exact q_d615a55187 j4 hh.2 h891 h890 | omega)) (h738) (ML_eq h739 (gN2_neg (by (first | exact q_c15c001ee9 h752 h753 h761 h762 h852 h854 h851 h890 h891 | omega))).symm)
          · refine En_Ps 1 (pc' := 155) (lv' := [(0, .ref 159)]) (st' := [.ref 159]) rfl ?_
            refine En_getK (j := 14) h846 rfl rfl rfl tgz_159 (by decide +kernel) ?_
            refine En_Ps 1 (pc' := 159) (lv' := [(0, .ref 159)]) (st' := [.int ((Int32.ofInt 5)), .ref 165]) rfl ?_
            refine En_iald (l := 0) (u := 6) rfl (by decide : (Int32.ofInt 5).toInt = 5) tgz_165 (by decide +kernel) h726 (by decide) (lnI (by decide +kernel : LN _ = 226) (by decide)) (by decide +kernel) (fun z905 h904 h906 h907 => ?_)
            have h909 : (gN1 By Nb Sp).1 = 0 := iW_g (i := 1) (B := By) (n := Nb) (by (first | exact q_8c31a76373 h891 h888.1 h890 h888.2.1 | omega))
            have h908 : (gN1 By Nb Sp).2.2.2 5 = z905.toInt := ML_wi h739 h909 h904 (by (first | decide | omega)) (by (first | decide | omega)) (by (first | decide | omega))
            refine En_Ps 1 (pc' := 162) (lv' := [(0, .ref 159)]) (st' := [.int (((Int8.ofInt 6).toInt32)), .int z905]) rfl ?_
            refine En_icNe _ rfl (by decide : ((Int8.ofInt 6).toInt32).toInt = 6) rfl (fun h910 => ?_) (fun h910 => ?_)
            · obtain ⟨z912, h911, h913, h914⟩ := WT_peekI h726 tgz_165 (by decide +kernel : FT 41 (2 : Int).toNat = (0, 0, 4)) (by decide +kernel)
              obtain ⟨z916, h915, h917, h918⟩ := WT_peekI h726 tgz_165 (by decide +kernel : FT 41 (3 : Int).toNat = (0, 0, 12)) (by decide +kernel)
              exact keyj170 σ725 z912 z916 z849 z905 y728 y732 h726 h727 h911 (by first | exact q_58e6e51dcc h913 | omega) (by first | exact q_c82ed93a8c h914 | omega) h915 (by first | exact q_58e6e51dcc h917 | omega) (by first | exact q_7c77837619 h918 | omega) h848 (by first | exact q_58e6e51dcc h850 | omega) (by first | exact q_4b59c54ff8 h854 h851 | omega) h904 (by first | exact q_58e6e51dcc h906 | omega) (by first | exact q_b7df4df08f h910 h907 | omega) h729 (by first | exact q_58e6e51dcc h730 | omega) (by first | exact q_da5e9b976f h731 | omega) h733 (by first | exact q_58e6e51dcc h734 | omega) (by first | exact q_246f9048f8 h735 | omega) (by (first | exact q_f67127b06c h736 | omega)) (fun _ => by have := Imp_m h737 (by (first | exact q_d8d8e6600d h740 h909 | omega)); (first | exact q_35a72a35ef this | omega)) (fun hh => by have := Imp_m h737 (by (first | exact q_35a72a35ef hh.1 | omega)); have zz : (gN1 By Nb Sp).1 = 0 := (by (first | exact q_d2dcd30e56 h909 | omega)); have j1 := Imp_m h741 zz; have j2 := Imp_m h742 zz; have j3 := Imp_m h743 zz; have j4 := Imp_m h744 zz; (first | exact q_9a56868a89 j1 hh.2 h753 h752 | omega)) (fun hh => by have := Imp_m h737 (by (first | exact q_35a72a35ef hh.1 | omega)); have zz : (gN1 By Nb Sp).1 = 0 := (by (first | exact q_d2dcd30e56 h909 | omega)); have j1 := Imp_m h741 zz; have j2 := Imp_m h742 zz; have j3 := Imp_m h743 zz; have j4 := Imp_m h744 zz; (first | exact q_809026a008 j2 hh.2 h762 h761 | omega)) (fun hh => by have zz : (gN1 By Nb Sp).1 = 0 := (by (first | exact q_d2dcd30e56 h909 | omega)); have j1 := Imp_m h741 zz; have j2 := Imp_m h742 zz; have j3 := Imp_m h743 zz; have j4 := Imp_m h744 zz; (first | exact q_1065cca776 h854 h851 | omega)) (fun hh => by have zz : (gN1 By Nb Sp).1 = 0 := (by (first | exact q_d2dcd30e56 h909 | omega)); have j1 := Imp_m h741 zz; have j2 := Imp_m h742 zz; have j3 := Imp_m h743 zz; have j4 := Imp_m h744 zz; (first | exact q_9f42007399 h910 h907 | omega)) (h738) (ML_eq h739 (gN2_neg (by (first | exact q_9ec08a6f2c h752 h753 h761 h762 h852 h854 h851 h908 h910 h907 | omega))).symm)
            · refine En_Ps 2 (pc' := 167) (lv' := [(0, .ref 159)]) (st' := [.int ((Int32.ofInt 3)), .ref 159]) rfl ?_
              have := (by decide : ((Int32.ofInt 3)).toInt = 3)
              refine En_callV rfl rfl rfl rfl rfl rfl rfl rfl tgz_159 (by decide +kernel) rfl (c_223x σ725 h726 ((Int32.ofInt 3)) (geI (by decide : (Int32.ofInt 3).toInt = 3) (by decide)) (leI (by decide : (Int32.ofInt 3).toInt = 3) (by decide)) y728 h729 h739) (by decide) (by decide) (fun v920 σ921 h919 => ?_)
              obtain ⟨h922, h923, z925, h926, rfl, h924⟩ := h919
              have h927 := h924.2.2.2.2
              have h928 := Fr_trans h727 h923 (by decide +kernel)
              have h929 := KF_fr h738 h923 (by decide +kernel)
              obtain ⟨S930, h931⟩ : ∃ q : PS, q = err By Nb 3 (gN1 By Nb Sp) := ⟨_, rfl⟩
              have h932 : ML By Nb σ921 S930 := by rw [h931]; exact (ML_eq h927 (err_cg (by (first | exact q_5736040b52 this | omega))))
              have h933 := ML_k h932 h926
              have h934 : S930.2.2.2 = (gN1 By Nb Sp).2.2.2 := by rw [h931]; exact err_w
              obtain ⟨z936, h935, h937, h938⟩ := WT_peekI h922 tgz_165 (by decide +kernel : FT 41 (2 : Int).toNat = (0, 0, 4)) (by decide +kernel)
              obtain ⟨z940, h939, h941, h942⟩ := WT_peekI h922 tgz_165 (by decide +kernel : FT 41 (3 : Int).toNat = (0, 0, 12)) (by decide +kernel)
              exact keyj170 σ921 z936 z940 z849 z905 z925 y732 h922 h928 h935 (by first | exact q_58e6e51dcc h937 | omega) (by first | exact q_c82ed93a8c h938 | omega) h939 (by first | exact q_58e6e51dcc h941 | omega) (by first | exact q_7c77837619 h942 | omega) ((h923 _ _ (inWa tgz_165 (by decide +kernel))).trans h848) (by first | exact q_58e6e51dcc h850 | omega) (by first | exact q_4b59c54ff8 h854 h851 | omega) ((h923 _ _ (inWa tgz_165 (by decide +kernel))).trans h904) (by first | exact q_b2cec3a713 h910 | omega) (by first | exact q_615333d33f h907 | omega) h926 (by first | exact q_996aa4c518 h924.1 | omega) (by first | exact q_87d9217d84 h924.2.1 | omega) ((h923 _ _ (inW tgz_159 (by decide +kernel))).trans h733) (by first | exact q_58e6e51dcc h734 | omega) (by first | exact q_246f9048f8 h735 | omega) (by (first | exact q_f67127b06c h736 | omega)) (fun _ => by have := Imp_m h737 (by (first | exact q_d8d8e6600d h740 h909 | omega)); (first | exact q_35a72a35ef this | omega)) (fun _ => by have := Imp_m h737 (by (first | exact q_d8d8e6600d h740 h909 | omega)); omega) (fun _ => by have := Imp_m h737 (by (first | exact q_d8d8e6600d h740 h909 | omega)); omega) (fun _ => by (first | exact q_1065cca776 h854 h851 | omega)) (fun _ => by have := Imp_m h737 (by (first | exact q_d8d8e6600d h740 h909 | omega)); omega) (h929) (ML_eq h932 (by subst h931; exact (gN2_pos (by (first | exact q_80b45e2ff9 h890 h891 h888.1 h888.2.1 h908 h910 | omega))).symm))
    · refine En_Ps 1 (pc' := 116) (lv' := [(0, .ref 159)]) (st' := [.ref 159]) rfl ?_
      refine En_getU (j := 14) (u := 165) (g' := 41) (q := 0) rfl rfl rfl tgz_159 (by decide +kernel) h726 (by decide +kernel) un_41_165 (fun h943 => ?_)
      refine En_Ps 1 (pc' := 120) (lv' := [(0, .ref 159)]) (st' := [.int ((Int32.ofInt 3)), .ref 165]) rfl ?_
      refine En_iald (l := 0) (u := 12) rfl (by decide : (Int32.ofInt 3).toInt = 3) tgz_165 (by decide +kernel) h726 (by decide) (lnI (by decide +kernel : LN _ = 226) (by decide)) (by decide +kernel) (fun z946 h945 h947 h948 => ?_)
      have h950 : (gN1 By Nb Sp).1 = 0 := iW_g (i := 3) (B := By) (n := Nb) (by (first | exact q_8c31a76373 h762 h759.1 h761 h759.2.1 | omega))
      have h949 : (gN1 By Nb Sp).2.2.2 3 = z946.toInt := ML_wi h739 h950 h945 (by (first | decide | omega)) (by (first | decide | omega)) (by (first | decide | omega))
      refine En_Ps 1 (pc' := 123) (lv' := [(0, .ref 159)]) (st' := [.int (((Int8.ofInt 12).toInt32)), .int z946]) rfl ?_
      refine En_icEq _ rfl (by decide : ((Int8.ofInt 12).toInt32).toInt = 12) rfl (fun h951 => ?_) (fun h951 => ?_)
      · refine En_Ps 2 (pc' := 167) (lv' := [(0, .ref 159)]) (st' := [.int ((Int32.ofInt 3)), .ref 159]) rfl ?_
        have := (by decide : ((Int32.ofInt 3)).toInt = 3)
        refine En_callV rfl rfl rfl rfl rfl rfl rfl rfl tgz_159 (by decide +kernel) rfl (c_223x σ725 h726 ((Int32.ofInt 3)) (geI (by decide : (Int32.ofInt 3).toInt = 3) (by decide)) (leI (by decide : (Int32.ofInt 3).toInt = 3) (by decide)) y728 h729 h739) (by decide) (by decide) (fun v953 σ954 h952 => ?_)
        obtain ⟨h955, h956, z958, h959, rfl, h957⟩ := h952
        have h960 := h957.2.2.2.2
        have h961 := Fr_trans h727 h956 (by decide +kernel)
        have h962 := KF_fr h738 h956 (by decide +kernel)
        obtain ⟨S963, h964⟩ : ∃ q : PS, q = err By Nb 3 (gN1 By Nb Sp) := ⟨_, rfl⟩
        have h965 : ML By Nb σ954 S963 := by rw [h964]; exact (ML_eq h960 (err_cg (by (first | exact q_5736040b52 this | omega))))
        have h966 := ML_k h965 h959
        have h967 : S963.2.2.2 = (gN1 By Nb Sp).2.2.2 := by rw [h964]; exact err_w
        obtain ⟨z969, h968, h970, h971⟩ := WT_peekI h955 tgz_165 (by decide +kernel : FT 41 (2 : Int).toNat = (0, 0, 4)) (by decide +kernel)
        obtain ⟨z973, h972, h974, h975⟩ := WT_peekI h955 tgz_165 (by decide +kernel : FT 41 (4 : Int).toNat = (0, 0, 4)) (by decide +kernel)
        obtain ⟨z977, h976, h978, h979⟩ := WT_peekI h955 tgz_165 (by decide +kernel : FT 41 (5 : Int).toNat = (0, 0, 6)) (by decide +kernel)
        exact keyj170 σ954 z969 z946 z973 z977 z958 y732 h955 h961 h968 (by first | exact q_58e6e51dcc h970 | omega) (by first | exact q_c82ed93a8c h971 | omega) ((h956 _ _ (inWa tgz_165 (by decide +kernel))).trans h945) (by first | exact q_c921150b37 h951 | omega) (by first | exact q_7c77837619 h948 | omega) h972 (by first | exact q_58e6e51dcc h974 | omega) (by first | exact q_c82ed93a8c h975 | omega) h976 (by first | exact q_58e6e51dcc h978 | omega) (by first | exact q_615333d33f h979 | omega) h959 (by first | exact q_996aa4c518 h957.1 | omega) (by first | exact q_87d9217d84 h957.2.1 | omega) ((h956 _ _ (inW tgz_159 (by decide +kernel))).trans h733) (by first | exact q_58e6e51dcc h734 | omega) (by first | exact q_246f9048f8 h735 | omega) (by (first | exact q_f67127b06c h736 | omega)) (fun _ => by have := Imp_m h737 (by (first | exact q_d8d8e6600d h740 h950 | omega)); (first | exact q_35a72a35ef this | omega)) (fun _ => by have := Imp_m h737 (by (first | exact q_d8d8e6600d h740 h950 | omega)); omega) (fun _ => by have := Imp_m h737 (by (first | exact q_d8d8e6600d h740 h950 | omega)); omega) (fun _ => by have := Imp_m h737 (by (first | exact q_d8d8e6600d h740 h950 | omega)); omega) (fun _ => by have := Imp_m h737 (by (first | exact q_d8d8e6600d h740 h950 | omega)); omega) (h962) (ML_eq h965 (by subst h964; exact (gN2_pos (by (first | exact q_f7e0ee2480 h761 h762 h759.1 h759.2.1 h949 h951 | omega))).symm))
      · refine En_Ps 1 (pc' := 127) (lv' := [(0, .ref 159)]) (st' := [.ref 159]) rfl ?_
        refine En_ldcS (i := 5) rfl rfl rfl ?_
        refine En_callV rfl rfl rfl rfl rfl rfl rfl rfl tgz_159 (by decide +kernel) rfl (c_251s5x σ725 h726 h739) (by decide) (by decide) (fun v981 σ982 h980 => ?_)
        obtain ⟨h983, h984, z986, rfl, h985⟩ := h980
        have h987 := h985.2.2
        obtain rfl : σ725 = σ982 := Fr_nil h984
        refine En_iEq _ rfl rfl (fun h988 => ?_) (fun h988 => ?_)
        · refine En_Ps 1 (pc' := 146) (lv' := [(0, .ref 159)]) (st' := [.ref 159]) rfl ?_
          refine En_ldcS (i := 1) rfl rfl rfl ?_
          refine En_callV rfl rfl rfl rfl rfl rfl rfl rfl tgz_159 (by decide +kernel) rfl (c_251s1x σ725 h726 h739) (by decide) (by decide) (fun v990 σ991 h989 => ?_)
          obtain ⟨h992, h993, z995, rfl, h994⟩ := h989
          have h996 := h994.2.2
          obtain rfl : σ725 = σ991 := Fr_nil h993
          refine En_iEq _ rfl rfl (fun h997 => ?_) (fun h997 => ?_)
          · obtain ⟨z999, h998, h1000, h1001⟩ := WT_peekI h726 tgz_165 (by decide +kernel : FT 41 (2 : Int).toNat = (0, 0, 4)) (by decide +kernel)
            obtain ⟨z1003, h1002, h1004, h1005⟩ := WT_peekI h726 tgz_165 (by decide +kernel : FT 41 (4 : Int).toNat = (0, 0, 4)) (by decide +kernel)
            obtain ⟨z1007, h1006, h1008, h1009⟩ := WT_peekI h726 tgz_165 (by decide +kernel : FT 41 (5 : Int).toNat = (0, 0, 6)) (by decide +kernel)
            exact keyj170 σ725 z999 z946 z1003 z1007 y728 y732 h726 h727 h998 (by first | exact q_58e6e51dcc h1000 | omega) (by first | exact q_c82ed93a8c h1001 | omega) h945 (by first | exact q_58e6e51dcc h947 | omega) (by first | exact q_f080a0e48d h951 h948 | omega) h1002 (by first | exact q_58e6e51dcc h1004 | omega) (by first | exact q_c82ed93a8c h1005 | omega) h1006 (by first | exact q_58e6e51dcc h1008 | omega) (by first | exact q_615333d33f h1009 | omega) h729 (by first | exact q_58e6e51dcc h730 | omega) (by first | exact q_da5e9b976f h731 | omega) h733 (by first | exact q_58e6e51dcc h734 | omega) (by first | exact q_246f9048f8 h735 | omega) (by (first | exact q_f67127b06c h736 | omega)) (fun _ => by have := Imp_m h737 (by (first | exact q_d8d8e6600d h740 h950 | omega)); (first | exact q_35a72a35ef this | omega)) (fun hh => by have := Imp_m h737 (by (first | exact q_35a72a35ef hh.1 | omega)); have zz : (gN1 By Nb Sp).1 = 0 := (by (first | exact q_d2dcd30e56 h950 | omega)); have j1 := Imp_m h741 zz; have j2 := Imp_m h742 zz; have j3 := Imp_m h743 zz; have j4 := Imp_m h744 zz; (first | exact q_9a56868a89 j1 hh.2 h753 h752 | omega)) (fun hh => by have zz : (gN1 By Nb Sp).1 = 0 := (by (first | exact q_d2dcd30e56 h950 | omega)); have j1 := Imp_m h741 zz; have j2 := Imp_m h742 zz; have j3 := Imp_m h743 zz; have j4 := Imp_m h744 zz; (first | exact q_6db8230771 h951 h948 | omega)) (fun hh => by have := Imp_m h737 (by (first | exact q_35a72a35ef hh.1 | omega)); have zz : (gN1 By Nb Sp).1 = 0 := (by (first | exact q_d2dcd30e56 h950 | omega)); have j1 := Imp_m h741 zz; have j2 := Imp_m h742 zz; have j3 := Imp_m h743 zz; have j4 := Imp_m h744 zz; (first | exact q_9a56868a89 j3 hh.2 h988 h987 | omega)) (fun hh => by have := Imp_m h737 (by (first | exact q_35a72a35ef hh.1 | omega)); have zz : (gN1 By Nb Sp).1 = 0 := (by (first | exact q_d2dcd30e56 h950 | omega)); have j1 := Imp_m h741 zz; have j2 := Imp_m h742 zz; have j3 := Imp_m h743 zz; have j4 := Imp_m h744 zz; (first | exact q_d615a55187 j4 hh.2 h997 h996 | omega)) (h738) (ML_eq h739 (gN2_neg (by (first | exact q_e0333985aa h752 h753 h949 h951 h948 h987 h988 h996 h997 | omega))).symm)
          · refine En_Ps 1 (pc' := 155) (lv' := [(0, .ref 159)]) (st' := [.ref 159]) rfl ?_
            refine En_getK (j := 14) h943 rfl rfl rfl tgz_159 (by decide +kernel) ?_
            refine En_Ps 1 (pc' := 159) (lv' := [(0, .ref 159)]) (st' := [.int ((Int32.ofInt 5)), .ref 165]) rfl ?_
            refine En_iald (l := 0) (u := 6) rfl (by decide : (Int32.ofInt 5).toInt = 5) tgz_165 (by decide +kernel) h726 (by decide) (lnI (by decide +kernel : LN _ = 226) (by decide)) (by decide +kernel) (fun z1011 h1010 h1012 h1013 => ?_)
            have h1015 : (gN1 By Nb Sp).1 = 0 := iW_g (i := 1) (B := By) (n := Nb) (by (first | exact q_8c31a76373 h997 h994.1 h996 h994.2.1 | omega))
            have h1014 : (gN1 By Nb Sp).2.2.2 5 = z1011.toInt := ML_wi h739 h1015 h1010 (by (first | decide | omega)) (by (first | decide | omega)) (by (first | decide | omega))
            refine En_Ps 1 (pc' := 162) (lv' := [(0, .ref 159)]) (st' := [.int (((Int8.ofInt 6).toInt32)), .int z1011]) rfl ?_
            refine En_icNe _ rfl (by decide : ((Int8.ofInt 6).toInt32).toInt = 6) rfl (fun h1016 => ?_) (fun h1016 => ?_)
            · obtain ⟨z1018, h1017, h1019, h1020⟩ := WT_peekI h726 tgz_165 (by decide +kernel : FT 41 (2 : Int).toNat = (0, 0, 4)) (by decide +kernel)
              obtain ⟨z1022, h1021, h1023, h1024⟩ := WT_peekI h726 tgz_165 (by decide +kernel : FT 41 (4 : Int).toNat = (0, 0, 4)) (by decide +kernel)
              exact keyj170 σ725 z1018 z946 z1022 z1011 y728 y732 h726 h727 h1017 (by first | exact q_58e6e51dcc h1019 | omega) (by first | exact q_c82ed93a8c h1020 | omega) h945 (by first | exact q_58e6e51dcc h947 | omega) (by first | exact q_f080a0e48d h951 h948 | omega) h1021 (by first | exact q_58e6e51dcc h1023 | omega) (by first | exact q_c82ed93a8c h1024 | omega) h1010 (by first | exact q_58e6e51dcc h1012 | omega) (by first | exact q_b7df4df08f h1016 h1013 | omega) h729 (by first | exact q_58e6e51dcc h730 | omega) (by first | exact q_da5e9b976f h731 | omega) h733 (by first | exact q_58e6e51dcc h734 | omega) (by first | exact q_246f9048f8 h735 | omega) (by (first | exact q_f67127b06c h736 | omega)) (fun _ => by have := Imp_m h737 (by (first | exact q_d8d8e6600d h740 h1015 | omega)); (first | exact q_35a72a35ef this | omega)) (fun hh => by have := Imp_m h737 (by (first | exact q_35a72a35ef hh.1 | omega)); have zz : (gN1 By Nb Sp).1 = 0 := (by (first | exact q_d2dcd30e56 h1015 | omega)); have j1 := Imp_m h741 zz; have j2 := Imp_m h742 zz; have j3 := Imp_m h743 zz; have j4 := Imp_m h744 zz; (first | exact q_9a56868a89 j1 hh.2 h753 h752 | omega)) (fun hh => by have zz : (gN1 By Nb Sp).1 = 0 := (by (first | exact q_d2dcd30e56 h1015 | omega)); have j1 := Imp_m h741 zz; have j2 := Imp_m h742 zz; have j3 := Imp_m h743 zz; have j4 := Imp_m h744 zz; (first | exact q_6db8230771 h951 h948 | omega)) (fun hh => by have := Imp_m h737 (by (first | exact q_35a72a35ef hh.1 | omega)); have zz : (gN1 By Nb Sp).1 = 0 := (by (first | exact q_d2dcd30e56 h1015 | omega)); have j1 := Imp_m h741 zz; have j2 := Imp_m h742 zz; have j3 := Imp_m h743 zz; have j4 := Imp_m h744 zz; (first | exact q_9a56868a89 j3 hh.2 h988 h987 | omega)) (fun hh => by have zz : (gN1 By Nb Sp).1 = 0 := (by (first | exact q_d2dcd30e56 h1015 | omega)); have j1 := Imp_m h741 zz; have j2 := Imp_m h742 zz; have j3 := Imp_m h743 zz; have j4 := Imp_m h744 zz; (first | exact q_9f42007399 h1016 h1013 | omega)) (h738) (ML_eq h739 (gN2_neg (by (first | exact q_d07cfa2ece h752 h753 h949 h951 h948 h987 h988 h1014 h1016 h1013 | omega))).symm)
            · refine En_Ps 2 (pc' := 167) (lv' := [(0, .ref 159)]) (st' := [.int ((Int32.ofInt 3)), .ref 159]) rfl ?_
              have := (by decide : ((Int32.ofInt 3)).toInt = 3)
              refine En_callV rfl rfl rfl rfl rfl rfl rfl rfl tgz_159 (by decide +kernel) rfl (c_223x σ725 h726 ((Int32.ofInt 3)) (geI (by decide : (Int32.ofInt 3).toInt = 3) (by decide)) (leI (by decide : (Int32.ofInt 3).toInt = 3) (by decide)) y728 h729 h739) (by decide) (by decide) (fun v1026 σ1027 h1025 => ?_)
              obtain ⟨h1028, h1029, z1031, h1032, rfl, h1030⟩ := h1025
              have h1033 := h1030.2.2.2.2
              have h1034 := Fr_trans h727 h1029 (by decide +kernel)
              have h1035 := KF_fr h738 h1029 (by decide +kernel)
              obtain ⟨S1036, h1037⟩ : ∃ q : PS, q = err By Nb 3 (gN1 By Nb Sp) := ⟨_, rfl⟩
              have h1038 : ML By Nb σ1027 S1036 := by rw [h1037]; exact (ML_eq h1033 (err_cg (by (first | exact q_5736040b52 this | omega))))
              have h1039 := ML_k h1038 h1032
              have h1040 : S1036.2.2.2 = (gN1 By Nb Sp).2.2.2 := by rw [h1037]; exact err_w
              obtain ⟨z1042, h1041, h1043, h1044⟩ := WT_peekI h1028 tgz_165 (by decide +kernel : FT 41 (2 : Int).toNat = (0, 0, 4)) (by decide +kernel)
              obtain ⟨z1046, h1045, h1047, h1048⟩ := WT_peekI h1028 tgz_165 (by decide +kernel : FT 41 (4 : Int).toNat = (0, 0, 4)) (by decide +kernel)
              exact keyj170 σ1027 z1042 z946 z1046 z1011 z1031 y732 h1028 h1034 h1041 (by first | exact q_58e6e51dcc h1043 | omega) (by first | exact q_c82ed93a8c h1044 | omega) ((h1029 _ _ (inWa tgz_165 (by decide +kernel))).trans h945) (by first | exact q_58e6e51dcc h947 | omega) (by first | exact q_f080a0e48d h951 h948 | omega) h1045 (by first | exact q_58e6e51dcc h1047 | omega) (by first | exact q_c82ed93a8c h1048 | omega) ((h1029 _ _ (inWa tgz_165 (by decide +kernel))).trans h1010) (by first | exact q_b2cec3a713 h1016 | omega) (by first | exact q_615333d33f h1013 | omega) h1032 (by first | exact q_996aa4c518 h1030.1 | omega) (by first | exact q_87d9217d84 h1030.2.1 | omega) ((h1029 _ _ (inW tgz_159 (by decide +kernel))).trans h733) (by first | exact q_58e6e51dcc h734 | omega) (by first | exact q_246f9048f8 h735 | omega) (by (first | exact q_f67127b06c h736 | omega)) (fun _ => by have := Imp_m h737 (by (first | exact q_d8d8e6600d h740 h1015 | omega)); (first | exact q_35a72a35ef this | omega)) (fun _ => by have := Imp_m h737 (by (first | exact q_d8d8e6600d h740 h1015 | omega)); omega) (fun _ => by (first | exact q_6db8230771 h951 h948 | omega)) (fun _ => by have := Imp_m h737 (by (first | exact q_d8d8e6600d h740 h1015 | omega)); omega) (fun _ => by have := Imp_m h737 (by (first | exact q_d8d8e6600d h740 h1015 | omega)); omega) (h1035) (ML_eq h1038 (by subst h1037; exact (gN2_pos (by (first | exact q_80b45e2ff9 h996 h997 h994.1 h994.2.1 h1014 h1016 | omega))).symm))
        · refine En_Ps 1 (pc' := 136) (lv' := [(0, .ref 159)]) (st' := [.ref 159]) rfl ?_
          refine En_getK (j := 14) h943 rfl rfl rfl tgz_159 (by decide +kernel) ?_
          refine En_Ps 1 (pc' := 140) (lv' := [(0, .ref 159)]) (st' := [.int ((Int32.ofInt 4)), .ref 165]) rfl ?_
          refine En_iald (l := 0) (u := 4) rfl (by decide : (Int32.ofInt 4).toInt = 4) tgz_165 (by decide +kernel) h726 (by decide) (lnI (by decide +kernel : LN _ = 226) (by decide)) (by decide +kernel) (fun z1050 h1049 h1051 h1052 => ?_)
          have h1054 : (gN1 By Nb Sp).1 = 0 := iW_g (i := 5) (B := By) (n := Nb) (by (first | exact q_8c31a76373 h988 h985.1 h987 h985.2.1 | omega))
          have h1053 : (gN1 By Nb Sp).2.2.2 4 = z1050.toInt := ML_wi h739 h1054 h1049 (by (first | decide | omega)) (by (first | decide | omega)) (by (first | decide | omega))
          refine En_Ps 1 (pc' := 142) (lv' := [(0, .ref 159)]) (st' := [.int ((Int32.ofInt 4)), .int z1050]) rfl ?_
          refine En_icEq _ rfl (by decide : (Int32.ofInt 4).toInt = 4) rfl (fun h1055 => ?_) (fun h1055 => ?_)
          · refine En_Ps 2 (pc' := 167) (lv' := [(0, .ref 159)]) (st' := [.int ((Int32.ofInt 3)), .ref 159]) rfl ?_
            have := (by decide : ((Int32.ofInt 3)).toInt = 3)
            refine En_callV rfl rfl rfl rfl rfl rfl rfl rfl tgz_159 (by decide +kernel) rfl (c_223x σ725 h726 ((Int32.ofInt 3)) (geI (by decide : (Int32.ofInt 3).toInt = 3) (by decide)) (leI (by decide : (Int32.ofInt 3).toInt = 3) (by decide)) y728 h729 h739) (by decide) (by decide) (fun v1057 σ1058 h1056 => ?_)
            obtain ⟨h1059, h1060, z1062, h1063, rfl, h1061⟩ := h1056
            have h1064 := h1061.2.2.2.2
            have h1065 := Fr_trans h727 h1060 (by decide +kernel)
            have h1066 := KF_fr h738 h1060 (by decide +kernel)
            obtain ⟨S1067, h1068⟩ : ∃ q : PS, q = err By Nb 3 (gN1 By Nb Sp) := ⟨_, rfl⟩
            have h1069 : ML By Nb σ1058 S1067 := by rw [h1068]; exact (ML_eq h1064 (err_cg (by (first | exact q_5736040b52 this | omega))))
            have h1070 := ML_k h1069 h1063
            have h1071 : S1067.2.2.2 = (gN1 By Nb Sp).2.2.2 := by rw [h1068]; exact err_w
            obtain ⟨z1073, h1072, h1074, h1075⟩ := WT_peekI h1059 tgz_165 (by decide +kernel : FT 41 (2 : Int).toNat = (0, 0, 4)) (by decide +kernel)
            obtain ⟨z1077, h1076, h1078, h1079⟩ := WT_peekI h1059 tgz_165 (by decide +kernel : FT 41 (5 : Int).toNat = (0, 0, 6)) (by decide +kernel)
            exact keyj170 σ1058 z1073 z946 z1050 z1077 z1062 y732 h1059 h1065 h1072 (by first | exact q_58e6e51dcc h1074 | omega) (by first | exact q_c82ed93a8c h1075 | omega) ((h1060 _ _ (inWa tgz_165 (by decide +kernel))).trans h945) (by first | exact q_58e6e51dcc h947 | omega) (by first | exact q_f080a0e48d h951 h948 | omega) ((h1060 _ _ (inWa tgz_165 (by decide +kernel))).trans h1049) (by first | exact q_8aa6573b50 h1055 | omega) (by first | exact q_c82ed93a8c h1052 | omega) h1076 (by first | exact q_58e6e51dcc h1078 | omega) (by first | exact q_615333d33f h1079 | omega) h1063 (by first | exact q_996aa4c518 h1061.1 | omega) (by first | exact q_87d9217d84 h1061.2.1 | omega) ((h1060 _ _ (inW tgz_159 (by decide +kernel))).trans h733) (by first | exact q_58e6e51dcc h734 | omega) (by first | exact q_246f9048f8 h735 | omega) (by (first | exact q_f67127b06c h736 | omega)) (fun _ => by have := Imp_m h737 (by (first | exact q_d8d8e6600d h740 h1054 | omega)); (first | exact q_35a72a35ef this | omega)) (fun _ => by have := Imp_m h737 (by (first | exact q_d8d8e6600d h740 h1054 | omega)); omega) (fun _ => by (first | exact q_6db8230771 h951 h948 | omega)) (fun _ => by have := Imp_m h737 (by (first | exact q_d8d8e6600d h740 h1054 | omega)); omega) (fun _ => by have := Imp_m h737 (by (first | exact q_d8d8e6600d h740 h1054 | omega)); omega) (h1066) (ML_eq h1069 (by subst h1068; exact (gN2_pos (by (first | exact q_cf7049a829 h987 h988 h985.1 h985.2.1 h1053 h1055 | omega))).symm))
          · refine En_Ps 1 (pc' := 146) (lv' := [(0, .ref 159)]) (st' := [.ref 159]) rfl ?_
            refine En_ldcS (i := 1) rfl rfl rfl ?_
            refine En_callV rfl rfl rfl rfl rfl rfl rfl rfl tgz_159 (by decide +kernel) rfl (c_251s1x σ725 h726 h739) (by decide) (by decide) (fun v1081 σ1082 h1080 => ?_)
            obtain ⟨h1083, h1084, z1086, rfl, h1085⟩ := h1080
            have h1087 := h1085.2.2
            obtain rfl : σ725 = σ1082 := Fr_nil h1084
            refine En_iEq _ rfl rfl (fun h1088 => ?_) (fun h1088 => ?_)
            · obtain ⟨z1090, h1089, h1091, h1092⟩ := WT_peekI h726 tgz_165 (by decide +kernel : FT 41 (2 : Int).toNat = (0, 0, 4)) (by decide +kernel)
              obtain ⟨z1094, h1093, h1095, h1096⟩ := WT_peekI h726 tgz_165 (by decide +kernel : FT 41 (5 : Int).toNat = (0, 0, 6)) (by decide +kernel)
              exact keyj170 σ725 z1090 z946 z1050 z1094 y728 y732 h726 h727 h1089 (by first | exact q_58e6e51dcc h1091 | omega) (by first | exact q_c82ed93a8c h1092 | omega) h945 (by first | exact q_58e6e51dcc h947 | omega) (by first | exact q_f080a0e48d h951 h948 | omega) h1049 (by first | exact q_58e6e51dcc h1051 | omega) (by first | exact q_4b59c54ff8 h1055 h1052 | omega) h1093 (by first | exact q_58e6e51dcc h1095 | omega) (by first | exact q_615333d33f h1096 | omega) h729 (by first | exact q_58e6e51dcc h730 | omega) (by first | exact q_da5e9b976f h731 | omega) h733 (by first | exact q_58e6e51dcc h734 | omega) (by first | exact q_246f9048f8 h735 | omega) (by (first | exact q_f67127b06c h736 | omega)) (fun _ => by have := Imp_m h737 (by (first | exact q_d8d8e6600d h740 h1054 | omega)); (first | exact q_35a72a35ef this | omega)) (fun hh => by have := Imp_m h737 (by (first | exact q_35a72a35ef hh.1 | omega)); have zz : (gN1 By Nb Sp).1 = 0 := (by (first | exact q_d2dcd30e56 h1054 | omega)); have j1 := Imp_m h741 zz; have j2 := Imp_m h742 zz; have j3 := Imp_m h743 zz; have j4 := Imp_m h744 zz; (first | exact q_9a56868a89 j1 hh.2 h753 h752 | omega)) (fun hh => by have zz : (gN1 By Nb Sp).1 = 0 := (by (first | exact q_d2dcd30e56 h1054 | omega)); have j1 := Imp_m h741 zz; have j2 := Imp_m h742 zz; have j3 := Imp_m h743 zz; have j4 := Imp_m h744 zz; (first | exact q_6db8230771 h951 h948 | omega)) (fun hh => by have zz : (gN1 By Nb Sp).1 = 0 := (by (first | exact q_d2dcd30e56 h1054 | omega)); have j1 := Imp_m h741 zz; have j2 := Imp_m h742 zz; have j3 := Imp_m h743 zz; have j4 := Imp_m h744 zz; (first | exact q_1065cca776 h1055 h1052 | omega)) (fun hh => by have := Imp_m h737 (by (first | exact q_35a72a35ef hh.1 | omega)); have zz : (gN1 By Nb Sp).1 = 0 := (by (first | exact q_d2dcd30e56 h1054 | omega)); have j1 := Imp_m h741 zz; have j2 := Imp_m h742 zz; have j3 := Imp_m h743 zz; have j4 := Imp_m h744 zz; (first | exact q_d615a55187 j4 hh.2 h1088 h1087 | omega)) (h738) (ML_eq h739 (gN2_neg (by (first | exact q_a55025c062 h752 h753 h949 h951 h948 h1053 h1055 h1052 h1087 h1088 | omega))).symm)
            · refine En_Ps 1 (pc' := 155) (lv' := [(0, .ref 159)]) (st' := [.ref 159]) rfl ?_
              refine En_getK (j := 14) h943 rfl rfl rfl tgz_159 (by decide +kernel) ?_
              refine En_Ps 1 (pc' := 159) (lv' := [(0, .ref 159)]) (st' := [.int ((Int32.ofInt 5)), .ref 165]) rfl ?_
              refine En_iald (l := 0) (u := 6) rfl (by decide : (Int32.ofInt 5).toInt = 5) tgz_165 (by decide +kernel) h726 (by decide) (lnI (by decide +kernel : LN _ = 226) (by decide)) (by decide +kernel) (fun z1098 h1097 h1099 h1100 => ?_)
              have h1102 : (gN1 By Nb Sp).1 = 0 := iW_g (i := 1) (B := By) (n := Nb) (by (first | exact q_8c31a76373 h1088 h1085.1 h1087 h1085.2.1 | omega))
              have h1101 : (gN1 By Nb Sp).2.2.2 5 = z1098.toInt := ML_wi h739 h1102 h1097 (by (first | decide | omega)) (by (first | decide | omega)) (by (first | decide | omega))
              refine En_Ps 1 (pc' := 162) (lv' := [(0, .ref 159)]) (st' := [.int (((Int8.ofInt 6).toInt32)), .int z1098]) rfl ?_
              refine En_icNe _ rfl (by decide : ((Int8.ofInt 6).toInt32).toInt = 6) rfl (fun h1103 => ?_) (fun h1103 => ?_)
              · obtain ⟨z1105, h1104, h1106, h1107⟩ := WT_peekI h726 tgz_165 (by decide +kernel : FT 41 (2 : Int).toNat = (0, 0, 4)) (by decide +kernel)
                exact keyj170 σ725 z1105 z946 z1050 z1098 y728 y732 h726 h727 h1104 (by first | exact q_58e6e51dcc h1106 | omega) (by first | exact q_c82ed93a8c h1107 | omega) h945 (by first | exact q_58e6e51dcc h947 | omega) (by first | exact q_f080a0e48d h951 h948 | omega) h1049 (by first | exact q_58e6e51dcc h1051 | omega) (by first | exact q_4b59c54ff8 h1055 h1052 | omega) h1097 (by first | exact q_58e6e51dcc h1099 | omega) (by first | exact q_b7df4df08f h1103 h1100 | omega) h729 (by first | exact q_58e6e51dcc h730 | omega) (by first | exact q_da5e9b976f h731 | omega) h733 (by first | exact q_58e6e51dcc h734 | omega) (by first | exact q_246f9048f8 h735 | omega) (by (first | exact q_f67127b06c h736 | omega)) (fun _ => by have := Imp_m h737 (by (first | exact q_d8d8e6600d h740 h1102 | omega)); (first | exact q_35a72a35ef this | omega)) (fun hh => by have := Imp_m h737 (by (first | exact q_35a72a35ef hh.1 | omega)); have zz : (gN1 By Nb Sp).1 = 0 := (by (first | exact q_d2dcd30e56 h1102 | omega)); have j1 := Imp_m h741 zz; have j2 := Imp_m h742 zz; have j3 := Imp_m h743 zz; have j4 := Imp_m h744 zz; (first | exact q_9a56868a89 j1 hh.2 h753 h752 | omega)) (fun hh => by have zz : (gN1 By Nb Sp).1 = 0 := (by (first | exact q_d2dcd30e56 h1102 | omega)); have j1 := Imp_m h741 zz; have j2 := Imp_m h742 zz; have j3 := Imp_m h743 zz; have j4 := Imp_m h744 zz; (first | exact q_6db8230771 h951 h948 | omega)) (fun hh => by have zz : (gN1 By Nb Sp).1 = 0 := (by (first | exact q_d2dcd30e56 h1102 | omega)); have j1 := Imp_m h741 zz; have j2 := Imp_m h742 zz; have j3 := Imp_m h743 zz; have j4 := Imp_m h744 zz; (first | exact q_1065cca776 h1055 h1052 | omega)) (fun hh => by have zz : (gN1 By Nb Sp).1 = 0 := (by (first | exact q_d2dcd30e56 h1102 | omega)); have j1 := Imp_m h741 zz; have j2 := Imp_m h742 zz; have j3 := Imp_m h743 zz; have j4 := Imp_m h744 zz; (first | exact q_9f42007399 h1103 h1100 | omega)) (h738) (ML_eq h739 (gN2_neg (by omega)).symm)
              · refine En_Ps 2 (pc' := 167) (lv' := [(0, .ref 159)]) (st' := [.int ((Int32.ofInt 3)), .ref 159]) rfl ?_
                have := (by decide : ((Int32.ofInt 3)).toInt = 3)
                refine En_callV rfl rfl rfl rfl rfl rfl rfl rfl tgz_159 (by decide +kernel) rfl (c_223x σ725 h726 ((Int32.ofInt 3)) (geI (by decide : (Int32.ofInt 3).toInt = 3) (by decide)) (leI (by decide : (Int32.ofInt 3).toInt = 3) (by decide)) y728 h729 h739) (by decide) (by decide) (fun v1109 σ1110 h1108 => ?_)
                obtain ⟨h1111, h1112, z1114, h1115, rfl, h1113⟩ := h1108
                have h1116 := h1113.2.2.2.2
                have h1117 := Fr_trans h727 h1112 (by decide +kernel)
                have h1118 := KF_fr h738 h1112 (by decide +kernel)
                obtain ⟨S1119, h1120⟩ : ∃ q : PS, q = err By Nb 3 (gN1 By Nb Sp) := ⟨_, rfl⟩
                have h1121 : ML By Nb σ1110 S1119 := by rw [h1120]; exact (ML_eq h1116 (err_cg (by (first | exact q_5736040b52 this | omega))))
                have h1122 := ML_k h1121 h1115
                have h1123 : S1119.2.2.2 = (gN1 By Nb Sp).2.2.2 := by rw [h1120]; exact err_w
                obtain ⟨z1125, h1124, h1126, h1127⟩ := WT_peekI h1111 tgz_165 (by decide +kernel : FT 41 (2 : Int).toNat = (0, 0, 4)) (by decide +kernel)
                exact keyj170 σ1110 z1125 z946 z1050 z1098 z1114 y732 h1111 h1117 h1124 (by first | exact q_58e6e51dcc h1126 | omega) (by first | exact q_c82ed93a8c h1127 | omega) ((h1112 _ _ (inWa tgz_165 (by decide +kernel))).trans h945) (by first | exact q_58e6e51dcc h947 | omega) (by first | exact q_f080a0e48d h951 h948 | omega) ((h1112 _ _ (inWa tgz_165 (by decide +kernel))).trans h1049) (by first | exact q_58e6e51dcc h1051 | omega) (by first | exact q_4b59c54ff8 h1055 h1052 | omega) ((h1112 _ _ (inWa tgz_165 (by decide +kernel))).trans h1097) (by first | exact q_b2cec3a713 h1103 | omega) (by first | exact q_615333d33f h1100 | omega) h1115 (by first | exact q_996aa4c518 h1113.1 | omega) (by first | exact q_87d9217d84 h1113.2.1 | omega) ((h1112 _ _ (inW tgz_159 (by decide +kernel))).trans h733) (by first | exact q_58e6e51dcc h734 | omega) (by first | exact q_246f9048f8 h735 | omega) (by (first | exact q_f67127b06c h736 | omega)) (fun _ => by have := Imp_m h737 (by (first | exact q_d8d8e6600d h740 h1102 | omega)); (first | exact q_35a72a35ef this | omega)) (fun _ => by have := Imp_m h737 (by (first | exact q_d8d8e6600d h740 h1102 | omega)); omega) (fun _ => by (first | exact q_6db8230771 h951 h948 | omega)) (fun _ => by (first | exact q_1065cca776 h1055 h1052 | omega)) (fun _ => by have := Imp_m h737 (by (first | exact q_d8d8e6600d h740 h1102 | omega)); omega) (h1118) (ML_eq h1121 (by subst h1120; exact (gN2_pos (by (first | exact q_80b45e2ff9 h1087 h1088 h1085.1 h1085.2.1 h1101 h1103 | omega))).symm))
  · refine En_Ps 1 (pc' := 97) (lv' := [(0, .ref 159)]) (st' := [.ref 159]) rfl ?_
    refine En_getU (j := 14) (u := 165) (g' := 41) (q := 0) rfl rfl rfl tgz_159 (by decide +kernel) h726 (by decide +kernel) un_41_165 (fun h1128 => ?_)
    refine En_Ps 1 (pc' := 101) (lv' := [(0, .ref 159)]) (st' := [.int ((Int32.ofInt 2)), .ref 165]) rfl ?_
    refine En_iald (l := 0) (u := 4) rfl (by decide : (Int32.ofInt 2).toInt = 2) tgz_165 (by decide +kernel) h726 (by decide) (lnI (by decide +kernel : LN _ = 226) (by decide)) (by decide +kernel) (fun z1131 h1130 h1132 h1133 => ?_)
    have h1135 : (gN1 By Nb Sp).1 = 0 := iW_g (i := 2) (B := By) (n := Nb) (by (first | exact q_8c31a76373 h753 h750.1 h752 h750.2.1 | omega))
    have h1134 : (gN1 By Nb Sp).2.2.2 2 = z1131.toInt := ML_wi h739 h1135 h1130 (by (first | decide | omega)) (by (first | decide | omega)) (by (first | decide | omega))
    refine En_Ps 1 (pc' := 103) (lv' := [(0, .ref 159)]) (st' := [.int ((Int32.ofInt 4)), .int z1131]) rfl ?_
    refine En_icEq _ rfl (by decide : (Int32.ofInt 4).toInt = 4) rfl (fun h1136 => ?_) (fun h1136 => ?_)
    · refine En_Ps 2 (pc' := 167) (lv' := [(0, .ref 159)]) (st' := [.int ((Int32.ofInt 3)), .ref 159]) rfl ?_
      have := (by decide : ((Int32.ofInt 3)).toInt = 3)
      refine En_callV rfl rfl rfl rfl rfl rfl rfl rfl tgz_159 (by decide +kernel) rfl (c_223x σ725 h726 ((Int32.ofInt 3)) (geI (by decide : (Int32.ofInt 3).toInt = 3) (by decide)) (leI (by decide : (Int32.ofInt 3).toInt = 3) (by decide)) y728 h729 h739) (by decide) (by decide) (fun v1138 σ1139 h1137 => ?_)
      obtain ⟨h1140, h1141, z1143, h1144, rfl, h1142⟩ := h1137
      have h1145 := h1142.2.2.2.2
      have h1146 := Fr_trans h727 h1141 (by decide +kernel)
      have h1147 := KF_fr h738 h1141 (by decide +kernel)
      obtain ⟨S1148, h1149⟩ : ∃ q : PS, q = err By Nb 3 (gN1 By Nb Sp) := ⟨_, rfl⟩
      have h1150 : ML By Nb σ1139 S1148 := by rw [h1149]; exact (ML_eq h1145 (err_cg (by (first | exact q_5736040b52 this | omega))))
      have h1151 := ML_k h1150 h1144
      have h1152 : S1148.2.2.2 = (gN1 By Nb Sp).2.2.2 := by rw [h1149]; exact err_w
      obtain ⟨z1154, h1153, h1155, h1156⟩ := WT_peekI h1140 tgz_165 (by decide +kernel : FT 41 (3 : Int).toNat = (0, 0, 12)) (by decide +kernel)
      obtain ⟨z1158, h1157, h1159, h1160⟩ := WT_peekI h1140 tgz_165 (by decide +kernel : FT 41 (4 : Int).toNat = (0, 0, 4)) (by decide +kernel)
      obtain ⟨z1162, h1161, h1163, h1164⟩ := WT_peekI h1140 tgz_165 (by decide +kernel : FT 41 (5 : Int).toNat = (0, 0, 6)) (by decide +kernel)
      exact keyj170 σ1139 z1131 z1154 z1158 z1162 z1143 y732 h1140 h1146 ((h1141 _ _ (inWa tgz_165 (by decide +kernel))).trans h1130) (by first | exact q_8aa6573b50 h1136 | omega) (by first | exact q_c82ed93a8c h1133 | omega) h1153 (by first | exact q_58e6e51dcc h1155 | omega) (by first | exact q_7c77837619 h1156 | omega) h1157 (by first | exact q_58e6e51dcc h1159 | omega) (by first | exact q_c82ed93a8c h1160 | omega) h1161 (by first | exact q_58e6e51dcc h1163 | omega) (by first | exact q_615333d33f h1164 | omega) h1144 (by first | exact q_996aa4c518 h1142.1 | omega) (by first | exact q_87d9217d84 h1142.2.1 | omega) ((h1141 _ _ (inW tgz_159 (by decide +kernel))).trans h733) (by first | exact q_58e6e51dcc h734 | omega) (by first | exact q_246f9048f8 h735 | omega) (by (first | exact q_f67127b06c h736 | omega)) (fun _ => by have := Imp_m h737 (by (first | exact q_d8d8e6600d h740 h1135 | omega)); (first | exact q_35a72a35ef this | omega)) (fun _ => by have := Imp_m h737 (by (first | exact q_d8d8e6600d h740 h1135 | omega)); omega) (fun _ => by have := Imp_m h737 (by (first | exact q_d8d8e6600d h740 h1135 | omega)); omega) (fun _ => by have := Imp_m h737 (by (first | exact q_d8d8e6600d h740 h1135 | omega)); omega) (fun _ => by have := Imp_m h737 (by (first | exact q_d8d8e6600d h740 h1135 | omega)); omega) (h1147) (ML_eq h1150 (by subst h1149; exact (gN2_pos (by (first | exact q_7f54fc5aed h752 h753 h750.1 h750.2.1 h1134 h1136 | omega))).symm))
    · refine En_Ps 1 (pc' := 107) (lv' := [(0, .ref 159)]) (st' := [.ref 159]) rfl ?_
      refine En_ldcS (i := 3) rfl rfl rfl ?_
      refine En_callV rfl rfl rfl rfl rfl rfl rfl rfl tgz_159 (by decide +kernel) rfl (c_251s3x σ725 h726 h739) (by decide) (by decide) (fun v1166 σ1167 h1165 => ?_)
      obtain ⟨h1168, h1169, z1171, rfl, h1170⟩ := h1165
      have h1172 := h1170.2.2
      obtain rfl : σ725 = σ1167 := Fr_nil h1169
      refine En_iEq _ rfl rfl (fun h1173 => ?_) (fun h1173 => ?_)
      · refine En_Ps 1 (pc' := 127) (lv' := [(0, .ref 159)]) (st' := [.ref 159]) rfl ?_
        refine En_ldcS (i := 5) rfl rfl rfl ?_
        refine En_callV rfl rfl rfl rfl rfl rfl rfl rfl tgz_159 (by decide +kernel) rfl (c_251s5x σ725 h726 h739) (by decide) (by decide) (fun v1175 σ1176 h1174 => ?_)
        obtain ⟨h1177, h1178, z1180, rfl, h1179⟩ := h1174
        have h1181 := h1179.2.2
        obtain rfl : σ725 = σ1176 := Fr_nil h1178
        refine En_iEq _ rfl rfl (fun h1182 => ?_) (fun h1182 => ?_)
        · refine En_Ps 1 (pc' := 146) (lv' := [(0, .ref 159)]) (st' := [.ref 159]) rfl ?_
          refine En_ldcS (i := 1) rfl rfl rfl ?_
          refine En_callV rfl rfl rfl rfl rfl rfl rfl rfl tgz_159 (by decide +kernel) rfl (c_251s1x σ725 h726 h739) (by decide) (by decide) (fun v1184 σ1185 h1183 => ?_)
          obtain ⟨h1186, h1187, z1189, rfl, h1188⟩ := h1183
          have h1190 := h1188.2.2
          obtain rfl : σ725 = σ1185 := Fr_nil h1187
          refine En_iEq _ rfl rfl (fun h1191 => ?_) (fun h1191 => ?_)
          · obtain ⟨z1193, h1192, h1194, h1195⟩ := WT_peekI h726 tgz_165 (by decide +kernel : FT 41 (3 : Int).toNat = (0, 0, 12)) (by decide +kernel)
            obtain ⟨z1197, h1196, h1198, h1199⟩ := WT_peekI h726 tgz_165 (by decide +kernel : FT 41 (4 : Int).toNat = (0, 0, 4)) (by decide +kernel)
            obtain ⟨z1201, h1200, h1202, h1203⟩ := WT_peekI h726 tgz_165 (by decide +kernel : FT 41 (5 : Int).toNat = (0, 0, 6)) (by decide +kernel)
            exact keyj170 σ725 z1131 z1193 z1197 z1201 y728 y732 h726 h727 h1130 (by first | exact q_58e6e51dcc h1132 | omega) (by first | exact q_4b59c54ff8 h1136 h1133 | omega) h1192 (by first | exact q_58e6e51dcc h1194 | omega) (by first | exact q_7c77837619 h1195 | omega) h1196 (by first | exact q_58e6e51dcc h1198 | omega) (by first | exact q_c82ed93a8c h1199 | omega) h1200 (by first | exact q_58e6e51dcc h1202 | omega) (by first | exact q_615333d33f h1203 | omega) h729 (by first | exact q_58e6e51dcc h730 | omega) (by first | exact q_da5e9b976f h731 | omega) h733 (by first | exact q_58e6e51dcc h734 | omega) (by first | exact q_246f9048f8 h735 | omega) (by (first | exact q_f67127b06c h736 | omega)) (fun _ => by have := Imp_m h737 (by (first | exact q_d8d8e6600d h740 h1135 | omega)); (first | exact q_35a72a35ef this | omega)) (fun hh => by have zz : (gN1 By Nb Sp).1 = 0 := (by (first | exact q_d2dcd30e56 h1135 | omega)); have j1 := Imp_m h741 zz; have j2 := Imp_m h742 zz; have j3 := Imp_m h743 zz; have j4 := Imp_m h744 zz; (first | exact q_1065cca776 h1136 h1133 | omega)) (fun hh => by have := Imp_m h737 (by (first | exact q_35a72a35ef hh.1 | omega)); have zz : (gN1 By Nb Sp).1 = 0 := (by (first | exact q_d2dcd30e56 h1135 | omega)); have j1 := Imp_m h741 zz; have j2 := Imp_m h742 zz; have j3 := Imp_m h743 zz; have j4 := Imp_m h744 zz; (first | exact q_809026a008 j2 hh.2 h1173 h1172 | omega)) (fun hh => by have := Imp_m h737 (by (first | exact q_35a72a35ef hh.1 | omega)); have zz : (gN1 By Nb Sp).1 = 0 := (by (first | exact q_d2dcd30e56 h1135 | omega)); have j1 := Imp_m h741 zz; have j2 := Imp_m h742 zz; have j3 := Imp_m h743 zz; have j4 := Imp_m h744 zz; (first | exact q_9a56868a89 j3 hh.2 h1182 h1181 | omega)) (fun hh => by have := Imp_m h737 (by (first | exact q_35a72a35ef hh.1 | omega)); have zz : (gN1 By Nb Sp).1 = 0 := (by (first | exact q_d2dcd30e56 h1135 | omega)); have j1 := Imp_m h741 zz; have j2 := Imp_m h742 zz; have j3 := Imp_m h743 zz; have j4 := Imp_m h744 zz; (first | exact q_d615a55187 j4 hh.2 h1191 h1190 | omega)) (h738) (ML_eq h739 (gN2_neg (by (first | exact q_0b42a55c8e h1136 h1134 h1133 h1172 h1173 h1181 h1182 h1190 h1191 | omega))).symm)
          · refine En_Ps 1 (pc' := 155) (lv' := [(0, .ref 159)]) (st' := [.ref 159]) rfl ?_
            refine En_getK (j := 14) h1128 rfl rfl rfl tgz_159 (by decide +kernel) ?_
            refine En_Ps 1 (pc' := 159) (lv' := [(0, .ref 159)]) (st' := [.int ((Int32.ofInt 5)), .ref 165]) rfl ?_
            refine En_iald (l := 0) (u := 6) rfl (by decide : (Int32.ofInt 5).toInt = 5) tgz_165 (by decide +kernel) h726 (by decide) (lnI (by decide +kernel : LN _ = 226) (by decide)) (by decide +kernel) (fun z1205 h1204 h1206 h1207 => ?_)
            have h1209 : (gN1 By Nb Sp).1 = 0 := iW_g (i := 1) (B := By) (n := Nb) (by (first | exact q_8c31a76373 h1191 h1188.1 h1190 h1188.2.1 | omega))
            have h1208 : (gN1 By Nb Sp).2.2.2 5 = z1205.toInt := ML_wi h739 h1209 h1204 (by (first | decide | omega)) (by (first | decide | omega)) (by (first | decide | omega))
            refine En_Ps 1 (pc' := 162) (lv' := [(0, .ref 159)]) (st' := [.int (((Int8.ofInt 6).toInt32)), .int z1205]) rfl ?_
            refine En_icNe _ rfl (by decide : ((Int8.ofInt 6).toInt32).toInt = 6) rfl (fun h1210 => ?_) (fun h1210 => ?_)
            · obtain ⟨z1212, h1211, h1213, h1214⟩ := WT_peekI h726 tgz_165 (by decide +kernel : FT 41 (3 : Int).toNat = (0, 0, 12)) (by decide +kernel)
              obtain ⟨z1216, h1215, h1217, h1218⟩ := WT_peekI h726 tgz_165 (by decide +kernel : FT 41 (4 : Int).toNat = (0, 0, 4)) (by decide +kernel)
              exact keyj170 σ725 z1131 z1212 z1216 z1205 y728 y732 h726 h727 h1130 (by first | exact q_58e6e51dcc h1132 | omega) (by first | exact q_4b59c54ff8 h1136 h1133 | omega) h1211 (by first | exact q_58e6e51dcc h1213 | omega) (by first | exact q_7c77837619 h1214 | omega) h1215 (by first | exact q_58e6e51dcc h1217 | omega) (by first | exact q_c82ed93a8c h1218 | omega) h1204 (by first | exact q_58e6e51dcc h1206 | omega) (by first | exact q_b7df4df08f h1210 h1207 | omega) h729 (by first | exact q_58e6e51dcc h730 | omega) (by first | exact q_da5e9b976f h731 | omega) h733 (by first | exact q_58e6e51dcc h734 | omega) (by first | exact q_246f9048f8 h735 | omega) (by (first | exact q_f67127b06c h736 | omega)) (fun _ => by have := Imp_m h737 (by (first | exact q_d8d8e6600d h740 h1209 | omega)); (first | exact q_35a72a35ef this | omega)) (fun hh => by have zz : (gN1 By Nb Sp).1 = 0 := (by (first | exact q_d2dcd30e56 h1209 | omega)); have j1 := Imp_m h741 zz; have j2 := Imp_m h742 zz; have j3 := Imp_m h743 zz; have j4 := Imp_m h744 zz; (first | exact q_1065cca776 h1136 h1133 | omega)) (fun hh => by have := Imp_m h737 (by (first | exact q_35a72a35ef hh.1 | omega)); have zz : (gN1 By Nb Sp).1 = 0 := (by (first | exact q_d2dcd30e56 h1209 | omega)); have j1 := Imp_m h741 zz; have j2 := Imp_m h742 zz; have j3 := Imp_m h743 zz; have j4 := Imp_m h744 zz; (first | exact q_809026a008 j2 hh.2 h1173 h1172 | omega)) (fun hh => by have := Imp_m h737 (by (first | exact q_35a72a35ef hh.1 | omega)); have zz : (gN1 By Nb Sp).1 = 0 := (by (first | exact q_d2dcd30e56 h1209 | omega)); have j1 := Imp_m h741 zz; have j2 := Imp_m h742 zz; have j3 := Imp_m h743 zz; have j4 := Imp_m h744 zz; (first | exact q_9a56868a89 j3 hh.2 h1182 h1181 | omega)) (fun hh => by have zz : (gN1 By Nb Sp).1 = 0 := (by (first | exact q_d2dcd30e56 h1209 | omega)); have j1 := Imp_m h741 zz; have j2 := Imp_m h742 zz; have j3 := Imp_m h743 zz; have j4 := Imp_m h744 zz; (first | exact q_9f42007399 h1210 h1207 | omega)) (h738) (ML_eq h739 (gN2_neg (by (first | exact q_4b68f8fe7f h1136 h1134 h1133 h1172 h1173 h1181 h1182 h1208 h1210 h1207 | omega))).symm)
            · refine En_Ps 2 (pc' := 167) (lv' := [(0, .ref 159)]) (st' := [.int ((Int32.ofInt 3)), .ref 159]) rfl ?_
              have := (by decide : ((Int32.ofInt 3)).toInt = 3)
              refine En_callV rfl rfl rfl rfl rfl rfl rfl rfl tgz_159 (by decide +kernel) rfl (c_223x σ725 h726 ((Int32.ofInt 3)) (geI (by decide : (Int32.ofInt 3).toInt = 3) (by decide)) (leI (by decide : (Int32.ofInt 3).toInt = 3) (by decide)) y728 h729 h739) (by decide) (by decide) (fun v1220 σ1221 h1219 => ?_)
              obtain ⟨h1222, h1223, z1225, h1226, rfl, h1224⟩ := h1219
              have h1227 := h1224.2.2.2.2
              have h1228 := Fr_trans h727 h1223 (by decide +kernel)
              have h1229 := KF_fr h738 h1223 (by decide +kernel)
              obtain ⟨S1230, h1231⟩ : ∃ q : PS, q = err By Nb 3 (gN1 By Nb Sp) := ⟨_, rfl⟩
              have h1232 : ML By Nb σ1221 S1230 := by rw [h1231]; exact (ML_eq h1227 (err_cg (by (first | exact q_5736040b52 this | omega))))
              have h1233 := ML_k h1232 h1226
              have h1234 : S1230.2.2.2 = (gN1 By Nb Sp).2.2.2 := by rw [h1231]; exact err_w
              obtain ⟨z1236, h1235, h1237, h1238⟩ := WT_peekI h1222 tgz_165 (by decide +kernel : FT 41 (3 : Int).toNat = (0, 0, 12)) (by decide +kernel)
              obtain ⟨z1240, h1239, h1241, h1242⟩ := WT_peekI h1222 tgz_165 (by decide +kernel : FT 41 (4 : Int).toNat = (0, 0, 4)) (by decide +kernel)
              exact keyj170 σ1221 z1131 z1236 z1240 z1205 z1225 y732 h1222 h1228 ((h1223 _ _ (inWa tgz_165 (by decide +kernel))).trans h1130) (by first | exact q_58e6e51dcc h1132 | omega) (by first | exact q_4b59c54ff8 h1136 h1133 | omega) h1235 (by first | exact q_58e6e51dcc h1237 | omega) (by first | exact q_7c77837619 h1238 | omega) h1239 (by first | exact q_58e6e51dcc h1241 | omega) (by first | exact q_c82ed93a8c h1242 | omega) ((h1223 _ _ (inWa tgz_165 (by decide +kernel))).trans h1204) (by first | exact q_b2cec3a713 h1210 | omega) (by first | exact q_615333d33f h1207 | omega) h1226 (by first | exact q_996aa4c518 h1224.1 | omega) (by first | exact q_87d9217d84 h1224.2.1 | omega) ((h1223 _ _ (inW tgz_159 (by decide +kernel))).trans h733) (by first | exact q_58e6e51dcc h734 | omega) (by first | exact q_246f9048f8 h735 | omega) (by (first | exact q_f67127b06c h736 | omega)) (fun _ => by have := Imp_m h737 (by (first | exact q_d8d8e6600d h740 h1209 | omega)); (first | exact q_35a72a35ef this | omega)) (fun _ => by (first | exact q_1065cca776 h1136 h1133 | omega)) (fun _ => by have := Imp_m h737 (by (first | exact q_d8d8e6600d h740 h1209 | omega)); omega) (fun _ => by have := Imp_m h737 (by (first | exact q_d8d8e6600d h740 h1209 | omega)); omega) (fun _ => by have := Imp_m h737 (by (first | exact q_d8d8e6600d h740 h1209 | omega)); omega) (h1229) (ML_eq h1232 (by subst h1231; exact (gN2_pos (by (first | exact q_80b45e2ff9 h1190 h1191 h1188.1 h1188.2.1 h1208 h1210 | omega))).symm))
        · refine En_Ps 1 (pc' := 136) (lv' := [(0, .ref 159)]) (st' := [.ref 159]) rfl ?_
          refine En_getK (j := 14) h1128 rfl rfl rfl tgz_159 (by decide +kernel) ?_
          refine En_Ps 1 (pc' := 140) (lv' := [(0, .ref 159)]) (st' := [.int ((Int32.ofInt 4)), .ref 165]) rfl ?_
          refine En_iald (l := 0) (u := 4) rfl (by decide : (Int32.ofInt 4).toInt = 4) tgz_165 (by decide +kernel) h726 (by decide) (lnI (by decide +kernel : LN _ = 226) (by decide)) (by decide +kernel) (fun z1244 h1243 h1245 h1246 => ?_)
          have h1248 : (gN1 By Nb Sp).1 = 0 := iW_g (i := 5) (B := By) (n := Nb) (by (first | exact q_8c31a76373 h1182 h1179.1 h1181 h1179.2.1 | omega))
          have h1247 : (gN1 By Nb Sp).2.2.2 4 = z1244.toInt := ML_wi h739 h1248 h1243 (by (first | decide | omega)) (by (first | decide | omega)) (by (first | decide | omega))
          refine En_Ps 1 (pc' := 142) (lv' := [(0, .ref 159)]) (st' := [.int ((Int32.ofInt 4)), .int z1244]) rfl ?_
          refine En_icEq _ rfl (by decide : (Int32.ofInt 4).toInt = 4) rfl (fun h1249 => ?_) (fun h1249 => ?_)
          · refine En_Ps 2 (pc' := 167) (lv' := [(0, .ref 159)]) (st' := [.int ((Int32.ofInt 3)), .ref 159]) rfl ?_
            have := (by decide : ((Int32.ofInt 3)).toInt = 3)
            refine En_callV rfl rfl rfl rfl rfl rfl rfl rfl tgz_159 (by decide +kernel) rfl (c_223x σ725 h726 ((Int32.ofInt 3)) (geI (by decide : (Int32.ofInt 3).toInt = 3) (by decide)) (leI (by decide : (Int32.ofInt 3).toInt = 3) (by decide)) y728 h729 h739) (by decide) (by decide) (fun v1251 σ1252 h1250 => ?_)
            obtain ⟨h1253, h1254, z1256, h1257, rfl, h1255⟩ := h1250
            have h1258 := h1255.2.2.2.2
            have h1259 := Fr_trans h727 h1254 (by decide +kernel)
            have h1260 := KF_fr h738 h1254 (by decide +kernel)
            obtain ⟨S1261, h1262⟩ : ∃ q : PS, q = err By Nb 3 (gN1 By Nb Sp) := ⟨_, rfl⟩
            have h1263 : ML By Nb σ1252 S1261 := by rw [h1262]; exact (ML_eq h1258 (err_cg (by (first | exact q_5736040b52 this | omega))))
            have h1264 := ML_k h1263 h1257
            have h1265 : S1261.2.2.2 = (gN1 By Nb Sp).2.2.2 := by rw [h1262]; exact err_w
            obtain ⟨z1267, h1266, h1268, h1269⟩ := WT_peekI h1253 tgz_165 (by decide +kernel : FT 41 (3 : Int).toNat = (0, 0, 12)) (by decide +kernel)
            obtain ⟨z1271, h1270, h1272, h1273⟩ := WT_peekI h1253 tgz_165 (by decide +kernel : FT 41 (5 : Int).toNat = (0, 0, 6)) (by decide +kernel)
            exact keyj170 σ1252 z1131 z1267 z1244 z1271 z1256 y732 h1253 h1259 ((h1254 _ _ (inWa tgz_165 (by decide +kernel))).trans h1130) (by first | exact q_58e6e51dcc h1132 | omega) (by first | exact q_4b59c54ff8 h1136 h1133 | omega) h1266 (by first | exact q_58e6e51dcc h1268 | omega) (by first | exact q_7c77837619 h1269 | omega) ((h1254 _ _ (inWa tgz_165 (by decide +kernel))).trans h1243) (by first | exact q_8aa6573b50 h1249 | omega) (by first | exact q_c82ed93a8c h1246 | omega) h1270 (by first | exact q_58e6e51dcc h1272 | omega) (by first | exact q_615333d33f h1273 | omega) h1257 (by first | exact q_996aa4c518 h1255.1 | omega) (by first | exact q_87d9217d84 h1255.2.1 | omega) ((h1254 _ _ (inW tgz_159 (by decide +kernel))).trans h733) (by first | exact q_58e6e51dcc h734 | omega) (by first | exact q_246f9048f8 h735 | omega) (by (first | exact q_f67127b06c h736 | omega)) (fun _ => by have := Imp_m h737 (by (first | exact q_d8d8e6600d h740 h1248 | omega)); (first | exact q_35a72a35ef this | omega)) (fun _ => by (first | exact q_1065cca776 h1136 h1133 | omega)) (fun _ => by have := Imp_m h737 (by (first | exact q_d8d8e6600d h740 h1248 | omega)); omega) (fun _ => by have := Imp_m h737 (by (first | exact q_d8d8e6600d h740 h1248 | omega)); omega) (fun _ => by have := Imp_m h737 (by (first | exact q_d8d8e6600d h740 h1248 | omega)); omega) (h1260) (ML_eq h1263 (by subst h1262; exact (gN2_pos (by (first | exact q_cf7049a829 h1181 h1182 h1179.1 h1179.2.1 h1247 h1249 | omega))).symm))
          · refine En_Ps 1 (pc' := 146) (lv' := [(0, .ref 159)]) (st' := [.ref 159]) rfl ?_
            refine En_ldcS (i := 1) rfl rfl rfl ?_
            refine En_callV rfl rfl rfl rfl rfl rfl rfl rfl tgz_159 (by decide +kernel) rfl (c_251s1x σ725 h726 h739) (by decide) (by decide) (fun v1275 σ1276 h1274 => ?_)
            obtain ⟨h1277, h1278, z1280, rfl, h1279⟩ := h1274
            have h1281 := h1279.2.2
            obtain rfl : σ725 = σ1276 := Fr_nil h1278
            refine En_iEq _ rfl rfl (fun h1282 => ?_) (fun h1282 => ?_)
            · obtain ⟨z1284, h1283, h1285, h1286⟩ := WT_peekI h726 tgz_165 (by decide +kernel : FT 41 (3 : Int).toNat = (0, 0, 12)) (by decide +kernel)
              obtain ⟨z1288, h1287, h1289, h1290⟩ := WT_peekI h726 tgz_165 (by decide +kernel : FT 41 (5 : Int).toNat = (0, 0, 6)) (by decide +kernel)
              exact keyj170 σ725 z1131 z1284 z1244 z1288 y728 y732 h726 h727 h1130 (by first | exact q_58e6e51dcc h1132 | omega) (by first | exact q_4b59c54ff8 h1136 h1133 | omega) h1283 (by first | exact q_58e6e51dcc h1285 | omega) (by first | exact q_7c77837619 h1286 | omega) h1243 (by first | exact q_58e6e51dcc h1245 | omega) (by first | exact q_4b59c54ff8 h1249 h1246 | omega) h1287 (by first | exact q_58e6e51dcc h1289 | omega) (by first | exact q_615333d33f h1290 | omega) h729 (by first | exact q_58e6e51dcc h730 | omega) (by first | exact q_da5e9b976f h731 | omega) h733 (by first | exact q_58e6e51dcc h734 | omega) (by first | exact q_246f9048f8 h735 | omega) (by (first | exact q_f67127b06c h736 | omega)) (fun _ => by have := Imp_m h737 (by (first | exact q_d8d8e6600d h740 h1248 | omega)); (first | exact q_35a72a35ef this | omega)) (fun hh => by have zz : (gN1 By Nb Sp).1 = 0 := (by (first | exact q_d2dcd30e56 h1248 | omega)); have j1 := Imp_m h741 zz; have j2 := Imp_m h742 zz; have j3 := Imp_m h743 zz; have j4 := Imp_m h744 zz; (first | exact q_1065cca776 h1136 h1133 | omega)) (fun hh => by have := Imp_m h737 (by (first | exact q_35a72a35ef hh.1 | omega)); have zz : (gN1 By Nb Sp).1 = 0 := (by (first | exact q_d2dcd30e56 h1248 | omega)); have j1 := Imp_m h741 zz; have j2 := Imp_m h742 zz; have j3 := Imp_m h743 zz; have j4 := Imp_m h744 zz; (first | exact q_809026a008 j2 hh.2 h1173 h1172 | omega)) (fun hh => by have zz : (gN1 By Nb Sp).1 = 0 := (by (first | exact q_d2dcd30e56 h1248 | omega)); have j1 := Imp_m h741 zz; have j2 := Imp_m h742 zz; have j3 := Imp_m h743 zz; have j4 := Imp_m h744 zz; (first | exact q_1065cca776 h1249 h1246 | omega)) (fun hh => by have := Imp_m h737 (by (first | exact q_35a72a35ef hh.1 | omega)); have zz : (gN1 By Nb Sp).1 = 0 := (by (first | exact q_d2dcd30e56 h1248 | omega)); have j1 := Imp_m h741 zz; have j2 := Imp_m h742 zz; have j3 := Imp_m h743 zz; have j4 := Imp_m h744 zz; (first | exact q_d615a55187 j4 hh.2 h1282 h1281 | omega)) (h738) (ML_eq h739 (gN2_neg (by (first | exact q_5b9cf5b049 h1136 h1134 h1133 h1172 h1173 h1247 h1249 h1246 h1281 h1282 | omega))).symm)
            · refine En_Ps 1 (pc' := 155) (lv' := [(0, .ref 159)]) (st' := [.ref 159]) rfl ?_
              refine En_getK (j := 14) h1128 rfl rfl rfl tgz_159 (by decide +kernel) ?_
              refine En_Ps 1 (pc' := 159) (lv' := [(0, .ref 159)]) (st' := [.int ((Int32.ofInt 5)), .ref 165]) rfl ?_
              refine En_iald (l := 0) (u := 6) rfl (by decide : (Int32.ofInt 5).toInt = 5) tgz_165 (by decide +kernel) h726 (by decide) (lnI (by decide +kernel : LN _ = 226) (by decide)) (by decide +kernel) (fun z1292 h1291 h1293 h1294 => ?_)
              have h1296 : (gN1 By Nb Sp).1 = 0 := iW_g (i := 1) (B := By) (n := Nb) (by (first | exact q_8c31a76373 h1282 h1279.1 h1281 h1279.2.1 | omega))
              have h1295 : (gN1 By Nb Sp).2.2.2 5 = z1292.toInt := ML_wi h739 h1296 h1291 (by (first | decide | omega)) (by (first | decide | omega)) (by (first | decide | omega))
              refine En_Ps 1 (pc' := 162) (lv' := [(0, .ref 159)]) (st' := [.int (((Int8.ofInt 6).toInt32)), .int z1292]) rfl ?_
              refine En_icNe _ rfl (by decide : ((Int8.ofInt 6).toInt32).toInt = 6) rfl (fun h1297 => ?_) (fun h1297 => ?_)
              · obtain ⟨z1299, h1298, h1300, h1301⟩ := WT_peekI h726 tgz_165 (by decide +kernel : FT 41 (3 : Int).toNat = (0, 0, 12)) (by decide +kernel)
                exact keyj170 σ725 z1131 z1299 z1244 z1292 y728 y732 h726 h727 h1130 (by first | exact q_58e6e51dcc h1132 | omega) (by first | exact q_4b59c54ff8 h1136 h1133 | omega) h1298 (by first | exact q_58e6e51dcc h1300 | omega) (by first | exact q_7c77837619 h1301 | omega) h1243 (by first | exact q_58e6e51dcc h1245 | omega) (by first | exact q_4b59c54ff8 h1249 h1246 | omega) h1291 (by first | exact q_58e6e51dcc h1293 | omega) (by first | exact q_b7df4df08f h1297 h1294 | omega) h729 (by first | exact q_58e6e51dcc h730 | omega) (by first | exact q_da5e9b976f h731 | omega) h733 (by first | exact q_58e6e51dcc h734 | omega) (by first | exact q_246f9048f8 h735 | omega) (by (first | exact q_f67127b06c h736 | omega)) (fun _ => by have := Imp_m h737 (by (first | exact q_d8d8e6600d h740 h1296 | omega)); (first | exact q_35a72a35ef this | omega)) (fun hh => by have zz : (gN1 By Nb Sp).1 = 0 := (by (first | exact q_d2dcd30e56 h1296 | omega)); have j1 := Imp_m h741 zz; have j2 := Imp_m h742 zz; have j3 := Imp_m h743 zz; have j4 := Imp_m h744 zz; (first | exact q_1065cca776 h1136 h1133 | omega)) (fun hh => by have := Imp_m h737 (by (first | exact q_35a72a35ef hh.1 | omega)); have zz : (gN1 By Nb Sp).1 = 0 := (by (first | exact q_d2dcd30e56 h1296 | omega)); have j1 := Imp_m h741 zz; have j2 := Imp_m h742 zz; have j3 := Imp_m h743 zz; have j4 := Imp_m h744 zz; (first | exact q_809026a008 j2 hh.2 h1173 h1172 | omega)) (fun hh => by have zz : (gN1 By Nb Sp).1 = 0 := (by (first | exact q_d2dcd30e56 h1296 | omega)); have j1 := Imp_m h741 zz; have j2 := Imp_m h742 zz; have j3 := Imp_m h743 zz; have j4 := Imp_m h744 zz; (first | exact q_1065cca776 h1249 h1246 | omega)) (fun hh => by have zz : (gN1 By Nb Sp).1 = 0 := (by (first | exact q_d2dcd30e56 h1296 | omega)); have j1 := Imp_m h741 zz; have j2 := Imp_m h742 zz; have j3 := Imp_m h743 zz; have j4 := Imp_m h744 zz; (first | exact q_9f42007399 h1297 h1294 | omega)) (h738) (ML_eq h739 (gN2_neg (by omega)).symm)
              · refine En_Ps 2 (pc' := 167) (lv' := [(0, .ref 159)]) (st' := [.int ((Int32.ofInt 3)), .ref 159]) rfl ?_
                have := (by decide : ((Int32.ofInt 3)).toInt = 3)
                refine En_callV rfl rfl rfl rfl rfl rfl rfl rfl tgz_159 (by decide +kernel) rfl (c_223x σ725 h726 ((Int32.ofInt 3)) (geI (by decide : (Int32.ofInt 3).toInt = 3) (by decide)) (leI (by decide : (Int32.ofInt 3).toInt = 3) (by decide)) y728 h729 h739) (by decide) (by decide) (fun v1303 σ1304 h1302 => ?_)
                obtain ⟨h1305, h1306, z1308, h1309, rfl, h1307⟩ := h1302
                have h1310 := h1307.2.2.2.2
                have h1311 := Fr_trans h727 h1306 (by decide +kernel)
                have h1312 := KF_fr h738 h1306 (by decide +kernel)
                obtain ⟨S1313, h1314⟩ : ∃ q : PS, q = err By Nb 3 (gN1 By Nb Sp) := ⟨_, rfl⟩
                have h1315 : ML By Nb σ1304 S1313 := by rw [h1314]; exact (ML_eq h1310 (err_cg (by (first | exact q_5736040b52 this | omega))))
                have h1316 := ML_k h1315 h1309
                have h1317 : S1313.2.2.2 = (gN1 By Nb Sp).2.2.2 := by rw [h1314]; exact err_w
                obtain ⟨z1319, h1318, h1320, h1321⟩ := WT_peekI h1305 tgz_165 (by decide +kernel : FT 41 (3 : Int).toNat = (0, 0, 12)) (by decide +kernel)
                exact keyj170 σ1304 z1131 z1319 z1244 z1292 z1308 y732 h1305 h1311 ((h1306 _ _ (inWa tgz_165 (by decide +kernel))).trans h1130) (by first | exact q_58e6e51dcc h1132 | omega) (by first | exact q_4b59c54ff8 h1136 h1133 | omega) h1318 (by first | exact q_58e6e51dcc h1320 | omega) (by first | exact q_7c77837619 h1321 | omega) ((h1306 _ _ (inWa tgz_165 (by decide +kernel))).trans h1243) (by first | exact q_58e6e51dcc h1245 | omega) (by first | exact q_4b59c54ff8 h1249 h1246 | omega) ((h1306 _ _ (inWa tgz_165 (by decide +kernel))).trans h1291) (by first | exact q_b2cec3a713 h1297 | omega) (by first | exact q_615333d33f h1294 | omega) h1309 (by first | exact q_996aa4c518 h1307.1 | omega) (by first | exact q_87d9217d84 h1307.2.1 | omega) ((h1306 _ _ (inW tgz_159 (by decide +kernel))).trans h733) (by first | exact q_58e6e51dcc h734 | omega) (by first | exact q_246f9048f8 h735 | omega) (by (first | exact q_f67127b06c h736 | omega)) (fun _ => by have := Imp_m h737 (by (first | exact q_d8d8e6600d h740 h1296 | omega)); (first | exact q_35a72a35ef this | omega)) (fun _ => by (first | exact q_1065cca776 h1136 h1133 | omega)) (fun _ => by have := Imp_m h737 (by (first | exact q_d8d8e6600d h740 h1296 | omega)); omega) (fun _ => by (first | exact q_1065cca776 h1249 h1246 | omega)) (fun _ => by have := Imp_m h737 (by (first | exact q_d8d8e6600d h740 h1296 | omega)); omega) (h1312) (ML_eq h1315 (by subst h1314; exact (gN2_pos (by (first | exact q_80b45e2ff9 h1281 h1282 h1279.1 h1279.2.1 h1295 h1297 | omega))).symm))
      · refine En_Ps 1 (pc' := 116) (lv' := [(0, .ref 159)]) (st' := [.ref 159]) rfl ?_
        refine En_getK (j := 14) h1128 rfl rfl rfl tgz_159 (by decide +kernel) ?_
        refine En_Ps 1 (pc' := 120) (lv' := [(0, .ref 159)]) (st' := [.int ((Int32.ofInt 3)), .ref 165]) rfl ?_
        refine En_iald (l := 0) (u := 12) rfl (by decide : (Int32.ofInt 3).toInt = 3) tgz_165 (by decide +kernel) h726 (by decide) (lnI (by decide +kernel : LN _ = 226) (by decide)) (by decide +kernel) (fun z1323 h1322 h1324 h1325 => ?_)
        have h1327 : (gN1 By Nb Sp).1 = 0 := iW_g (i := 3) (B := By) (n := Nb) (by (first | exact q_8c31a76373 h1173 h1170.1 h1172 h1170.2.1 | omega))
        have h1326 : (gN1 By Nb Sp).2.2.2 3 = z1323.toInt := ML_wi h739 h1327 h1322 (by (first | decide | omega)) (by (first | decide | omega)) (by (first | decide | omega))
        refine En_Ps 1 (pc' := 123) (lv' := [(0, .ref 159)]) (st' := [.int (((Int8.ofInt 12).toInt32)), .int z1323]) rfl ?_
        refine En_icEq _ rfl (by decide : ((Int8.ofInt 12).toInt32).toInt = 12) rfl (fun h1328 => ?_) (fun h1328 => ?_)
        · refine En_Ps 2 (pc' := 167) (lv' := [(0, .ref 159)]) (st' := [.int ((Int32.ofInt 3)), .ref 159]) rfl ?_
          have := (by decide : ((Int32.ofInt 3)).toInt = 3)
          refine En_callV rfl rfl rfl rfl rfl rfl rfl rfl tgz_159 (by decide +kernel) rfl (c_223x σ725 h726 ((Int32.ofInt 3)) (geI (by decide : (Int32.ofInt 3).toInt = 3) (by decide)) (leI (by decide : (Int32.ofInt 3).toInt = 3) (by decide)) y728 h729 h739) (by decide) (by decide) (fun v1330 σ1331 h1329 => ?_)
          obtain ⟨h1332, h1333, z1335, h1336, rfl, h1334⟩ := h1329
          have h1337 := h1334.2.2.2.2
          have h1338 := Fr_trans h727 h1333 (by decide +kernel)
          have h1339 := KF_fr h738 h1333 (by decide +kernel)
          obtain ⟨S1340, h1341⟩ : ∃ q : PS, q = err By Nb 3 (gN1 By Nb Sp) := ⟨_, rfl⟩
          have h1342 : ML By Nb σ1331 S1340 := by rw [h1341]; exact (ML_eq h1337 (err_cg (by (first | exact q_5736040b52 this | omega))))
          have h1343 := ML_k h1342 h1336
          have h1344 : S1340.2.2.2 = (gN1 By Nb Sp).2.2.2 := by rw [h1341]; exact err_w
          obtain ⟨z1346, h1345, h1347, h1348⟩ := WT_peekI h1332 tgz_165 (by decide +kernel : FT 41 (4 : Int).toNat = (0, 0, 4)) (by decide +kernel)
          obtain ⟨z1350, h1349, h1351, h1352⟩ := WT_peekI h1332 tgz_165 (by decide +kernel : FT 41 (5 : Int).toNat = (0, 0, 6)) (by decide +kernel)
          exact keyj170 σ1331 z1131 z1323 z1346 z1350 z1335 y732 h1332 h1338 ((h1333 _ _ (inWa tgz_165 (by decide +kernel))).trans h1130) (by first | exact q_58e6e51dcc h1132 | omega) (by first | exact q_4b59c54ff8 h1136 h1133 | omega) ((h1333 _ _ (inWa tgz_165 (by decide +kernel))).trans h1322) (by first | exact q_c921150b37 h1328 | omega) (by first | exact q_7c77837619 h1325 | omega) h1345 (by first | exact q_58e6e51dcc h1347 | omega) (by first | exact q_c82ed93a8c h1348 | omega) h1349 (by first | exact q_58e6e51dcc h1351 | omega) (by first | exact q_615333d33f h1352 | omega) h1336 (by first | exact q_996aa4c518 h1334.1 | omega) (by first | exact q_87d9217d84 h1334.2.1 | omega) ((h1333 _ _ (inW tgz_159 (by decide +kernel))).trans h733) (by first | exact q_58e6e51dcc h734 | omega) (by first | exact q_246f9048f8 h735 | omega) (by (first | exact q_f67127b06c h736 | omega)) (fun _ => by have := Imp_m h737 (by (first | exact q_d8d8e6600d h740 h1327 | omega)); (first | exact q_35a72a35ef this | omega)) (fun _ => by (first | exact q_1065cca776 h1136 h1133 | omega)) (fun _ => by have := Imp_m h737 (by (first | exact q_d8d8e6600d h740 h1327 | omega)); omega) (fun _ => by have := Imp_m h737 (by (first | exact q_d8d8e6600d h740 h1327 | omega)); omega) (fun _ => by have := Imp_m h737 (by (first | exact q_d8d8e6600d h740 h1327 | omega)); omega) (h1339) (ML_eq h1342 (by subst h1341; exact (gN2_pos (by (first | exact q_f7e0ee2480 h1172 h1173 h1170.1 h1170.2.1 h1326 h1328 | omega))).symm))
        · refine En_Ps 1 (pc' := 127) (lv' := [(0, .ref 159)]) (st' := [.ref 159]) rfl ?_
          refine En_ldcS (i := 5) rfl rfl rfl ?_
          refine En_callV rfl rfl rfl rfl rfl rfl rfl rfl tgz_159 (by decide +kernel) rfl (c_251s5x σ725 h726 h739) (by decide) (by decide) (fun v1354 σ1355 h1353 => ?_)
          obtain ⟨h1356, h1357, z1359, rfl, h1358⟩ := h1353
          have h1360 := h1358.2.2
          obtain rfl : σ725 = σ1355 := Fr_nil h1357
          refine En_iEq _ rfl rfl (fun h1361 => ?_) (fun h1361 => ?_)
          · refine En_Ps 1 (pc' := 146) (lv' := [(0, .ref 159)]) (st' := [.ref 159]) rfl ?_
            refine En_ldcS (i := 1) rfl rfl rfl ?_
            refine En_callV rfl rfl rfl rfl rfl rfl rfl rfl tgz_159 (by decide +kernel) rfl (c_251s1x σ725 h726 h739) (by decide) (by decide) (fun v1363 σ1364 h1362 => ?_)
            obtain ⟨h1365, h1366, z1368, rfl, h1367⟩ := h1362
            have h1369 := h1367.2.2
            obtain rfl : σ725 = σ1364 := Fr_nil h1366
            refine En_iEq _ rfl rfl (fun h1370 => ?_) (fun h1370 => ?_)
            · obtain ⟨z1372, h1371, h1373, h1374⟩ := WT_peekI h726 tgz_165 (by decide +kernel : FT 41 (4 : Int).toNat = (0, 0, 4)) (by decide +kernel)
              obtain ⟨z1376, h1375, h1377, h1378⟩ := WT_peekI h726 tgz_165 (by decide +kernel : FT 41 (5 : Int).toNat = (0, 0, 6)) (by decide +kernel)
              exact keyj170 σ725 z1131 z1323 z1372 z1376 y728 y732 h726 h727 h1130 (by first | exact q_58e6e51dcc h1132 | omega) (by first | exact q_4b59c54ff8 h1136 h1133 | omega) h1322 (by first | exact q_58e6e51dcc h1324 | omega) (by first | exact q_f080a0e48d h1328 h1325 | omega) h1371 (by first | exact q_58e6e51dcc h1373 | omega) (by first | exact q_c82ed93a8c h1374 | omega) h1375 (by first | exact q_58e6e51dcc h1377 | omega) (by first | exact q_615333d33f h1378 | omega) h729 (by first | exact q_58e6e51dcc h730 | omega) (by first | exact q_da5e9b976f h731 | omega) h733 (by first | exact q_58e6e51dcc h734 | omega) (by first | exact q_246f9048f8 h735 | omega) (by (first | exact q_f67127b06c h736 | omega)) (fun _ => by have := Imp_m h737 (by (first | exact q_d8d8e6600d h740 h1327 | omega)); (first | exact q_35a72a35ef this | omega)) (fun hh => by have zz : (gN1 By Nb Sp).1 = 0 := (by (first | exact q_d2dcd30e56 h1327 | omega)); have j1 := Imp_m h741 zz; have j2 := Imp_m h742 zz; have j3 := Imp_m h743 zz; have j4 := Imp_m h744 zz; (first | exact q_1065cca776 h1136 h1133 | omega)) (fun hh => by have zz : (gN1 By Nb Sp).1 = 0 := (by (first | exact q_d2dcd30e56 h1327 | omega)); have j1 := Imp_m h741 zz; have j2 := Imp_m h742 zz; have j3 := Imp_m h743 zz; have j4 := Imp_m h744 zz; (first | exact q_6db8230771 h1328 h1325 | omega)) (fun hh => by have := Imp_m h737 (by (first | exact q_35a72a35ef hh.1 | omega)); have zz : (gN1 By Nb Sp).1 = 0 := (by (first | exact q_d2dcd30e56 h1327 | omega)); have j1 := Imp_m h741 zz; have j2 := Imp_m h742 zz; have j3 := Imp_m h743 zz; have j4 := Imp_m h744 zz; (first | exact q_9a56868a89 j3 hh.2 h1361 h1360 | omega)) (fun hh => by have := Imp_m h737 (by (first | exact q_35a72a35ef hh.1 | omega)); have zz : (gN1 By Nb Sp).1 = 0 := (by (first | exact q_d2dcd30e56 h1327 | omega)); have j1 := Imp_m h741 zz; have j2 := Imp_m h742 zz; have j3 := Imp_m h743 zz; have j4 := Imp_m h744 zz; (first | exact q_d615a55187 j4 hh.2 h1370 h1369 | omega)) (h738) (ML_eq h739 (gN2_neg (by (first | exact q_101234f4b2 h1136 h1134 h1133 h1326 h1328 h1325 h1360 h1361 h1369 h1370 | omega))).symm)
            · refine En_Ps 1 (pc' := 155) (lv' := [(0, .ref 159)]) (st' := [.ref 159]) rfl ?_
              refine En_getK (j := 14) h1128 rfl rfl rfl tgz_159 (by decide +kernel) ?_
              refine En_Ps 1 (pc' := 159) (lv' := [(0, .ref 159)]) (st' := [.int ((Int32.ofInt 5)), .ref 165]) rfl ?_
              refine En_iald (l := 0) (u := 6) rfl (by decide : (Int32.ofInt 5).toInt = 5) tgz_165 (by decide +kernel) h726 (by decide) (lnI (by decide +kernel : LN _ = 226) (by decide)) (by decide +kernel) (fun z1380 h1379 h1381 h1382 => ?_)
              have h1384 : (gN1 By Nb Sp).1 = 0 := iW_g (i := 1) (B := By) (n := Nb) (by (first | exact q_8c31a76373 h1370 h1367.1 h1369 h1367.2.1 | omega))
              have h1383 : (gN1 By Nb Sp).2.2.2 5 = z1380.toInt := ML_wi h739 h1384 h1379 (by (first | decide | omega)) (by (first | decide | omega)) (by (first | decide | omega))
              refine En_Ps 1 (pc' := 162) (lv' := [(0, .ref 159)]) (st' := [.int (((Int8.ofInt 6).toInt32)), .int z1380]) rfl ?_
              refine En_icNe _ rfl (by decide : ((Int8.ofInt 6).toInt32).toInt = 6) rfl (fun h1385 => ?_) (fun h1385 => ?_)
              · obtain ⟨z1387, h1386, h1388, h1389⟩ := WT_peekI h726 tgz_165 (by decide +kernel : FT 41 (4 : Int).toNat = (0, 0, 4)) (by decide +kernel)
                exact keyj170 σ725 z1131 z1323 z1387 z1380 y728 y732 h726 h727 h1130 (by first | exact q_58e6e51dcc h1132 | omega) (by first | exact q_4b59c54ff8 h1136 h1133 | omega) h1322 (by first | exact q_58e6e51dcc h1324 | omega) (by first | exact q_f080a0e48d h1328 h1325 | omega) h1386 (by first | exact q_58e6e51dcc h1388 | omega) (by first | exact q_c82ed93a8c h1389 | omega) h1379 (by first | exact q_58e6e51dcc h1381 | omega) (by first | exact q_b7df4df08f h1385 h1382 | omega) h729 (by first | exact q_58e6e51dcc h730 | omega) (by first | exact q_da5e9b976f h731 | omega) h733 (by first | exact q_58e6e51dcc h734 | omega) (by first | exact q_246f9048f8 h735 | omega) (by (first | exact q_f67127b06c h736 | omega)) (fun _ => by have := Imp_m h737 (by (first | exact q_d8d8e6600d h740 h1384 | omega)); (first | exact q_35a72a35ef this | omega)) (fun hh => by have zz : (gN1 By Nb Sp).1 = 0 := (by (first | exact q_d2dcd30e56 h1384 | omega)); have j1 := Imp_m h741 zz; have j2 := Imp_m h742 zz; have j3 := Imp_m h743 zz; have j4 := Imp_m h744 zz; (first | exact q_1065cca776 h1136 h1133 | omega)) (fun hh => by have zz : (gN1 By Nb Sp).1 = 0 := (by (first | exact q_d2dcd30e56 h1384 | omega)); have j1 := Imp_m h741 zz; have j2 := Imp_m h742 zz; have j3 := Imp_m h743 zz; have j4 := Imp_m h744 zz; (first | exact q_6db8230771 h1328 h1325 | omega)) (fun hh => by have := Imp_m h737 (by (first | exact q_35a72a35ef hh.1 | omega)); have zz : (gN1 By Nb Sp).1 = 0 := (by (first | exact q_d2dcd30e56 h1384 | omega)); have j1 := Imp_m h741 zz; have j2 := Imp_m h742 zz; have j3 := Imp_m h743 zz; have j4 := Imp_m h744 zz; (first | exact q_9a56868a89 j3 hh.2 h1361 h1360 | omega)) (fun hh => by have zz : (gN1 By Nb Sp).1 = 0 := (by (first | exact q_d2dcd30e56 h1384 | omega)); have j1 := Imp_m h741 zz; have j2 := Imp_m h742 zz; have j3 := Imp_m h743 zz; have j4 := Imp_m h744 zz; (first | exact q_9f42007399 h1385 h1382 | omega)) (h738) (ML_eq h739 (gN2_neg (by omega)).symm)
              · refine En_Ps 2 (pc' := 167) (lv' := [(0, .ref 159)]) (st' := [.int ((Int32.ofInt 3)), .ref 159]) rfl ?_
                have := (by decide : ((Int32.ofInt 3)).toInt = 3)
                refine En_callV rfl rfl rfl rfl rfl rfl rfl rfl tgz_159 (by decide +kernel) rfl (c_223x σ725 h726 ((Int32.ofInt 3)) (geI (by decide : (Int32.ofInt 3).toInt = 3) (by decide)) (leI (by decide : (Int32.ofInt 3).toInt = 3) (by decide)) y728 h729 h739) (by decide) (by decide) (fun v1391 σ1392 h1390 => ?_)
                obtain ⟨h1393, h1394, z1396, h1397, rfl, h1395⟩ := h1390
                have h1398 := h1395.2.2.2.2
                have h1399 := Fr_trans h727 h1394 (by decide +kernel)
                have h1400 := KF_fr h738 h1394 (by decide +kernel)
                obtain ⟨S1401, h1402⟩ : ∃ q : PS, q = err By Nb 3 (gN1 By Nb Sp) := ⟨_, rfl⟩
                have h1403 : ML By Nb σ1392 S1401 := by rw [h1402]; exact (ML_eq h1398 (err_cg (by (first | exact q_5736040b52 this | omega))))
                have h1404 := ML_k h1403 h1397
                have h1405 : S1401.2.2.2 = (gN1 By Nb Sp).2.2.2 := by rw [h1402]; exact err_w
                obtain ⟨z1407, h1406, h1408, h1409⟩ := WT_peekI h1393 tgz_165 (by decide +kernel : FT 41 (4 : Int).toNat = (0, 0, 4)) (by decide +kernel)
                exact keyj170 σ1392 z1131 z1323 z1407 z1380 z1396 y732 h1393 h1399 ((h1394 _ _ (inWa tgz_165 (by decide +kernel))).trans h1130) (by first | exact q_58e6e51dcc h1132 | omega) (by first | exact q_4b59c54ff8 h1136 h1133 | omega) ((h1394 _ _ (inWa tgz_165 (by decide +kernel))).trans h1322) (by first | exact q_58e6e51dcc h1324 | omega) (by first | exact q_f080a0e48d h1328 h1325 | omega) h1406 (by first | exact q_58e6e51dcc h1408 | omega) (by first | exact q_c82ed93a8c h1409 | omega) ((h1394 _ _ (inWa tgz_165 (by decide +kernel))).trans h1379) (by first | exact q_b2cec3a713 h1385 | omega) (by first | exact q_615333d33f h1382 | omega) h1397 (by first | exact q_996aa4c518 h1395.1 | omega) (by first | exact q_87d9217d84 h1395.2.1 | omega) ((h1394 _ _ (inW tgz_159 (by decide +kernel))).trans h733) (by first | exact q_58e6e51dcc h734 | omega) (by first | exact q_246f9048f8 h735 | omega) (by (first | exact q_f67127b06c h736 | omega)) (fun _ => by have := Imp_m h737 (by (first | exact q_d8d8e6600d h740 h1384 | omega)); (first | exact q_35a72a35ef this | omega)) (fun _ => by (first | exact q_1065cca776 h1136 h1133 | omega)) (fun _ => by (first | exact q_6db8230771 h1328 h1325 | omega)) (fun _ => by have := Imp_m h737 (by (first | exact q_d8d8e6600d h740 h1384 | omega)); omega) (fun _ => by have := Imp_m h737 (by (first | exact q_d8d8e6600d h740 h1384 | omega)); omega) (h1400) (ML_eq h1403 (by subst h1402; exact (gN2_pos (by (first | exact q_80b45e2ff9 h1369 h1370 h1367.1 h1367.2.1 h1383 h1385 | omega))).symm))
          · refine En_Ps 1 (pc' := 136) (lv' := [(0, .ref 159)]) (st' := [.ref 159]) rfl ?_
            refine En_getK (j := 14) h1128 rfl rfl rfl tgz_159 (by decide +kernel) ?_
            refine En_Ps 1 (pc' := 140) (lv' := [(0, .ref 159)]) (st' := [.int ((Int32.ofInt 4)), .ref 165]) rfl ?_
            refine En_iald (l := 0) (u := 4) rfl (by decide : (Int32.ofInt 4).toInt = 4) tgz_165 (by decide +kernel) h726 (by decide) (lnI (by decide +kernel : LN _ = 226) (by decide)) (by decide +kernel) (fun z1411 h1410 h1412 h1413 => ?_)
            have h1415 : (gN1 By Nb Sp).1 = 0 := iW_g (i := 5) (B := By) (n := Nb) (by (first | exact q_8c31a76373 h1361 h1358.1 h1360 h1358.2.1 | omega))
            have h1414 : (gN1 By Nb Sp).2.2.2 4 = z1411.toInt := ML_wi h739 h1415 h1410 (by (first | decide | omega)) (by (first | decide | omega)) (by (first | decide | omega))
            refine En_Ps 1 (pc' := 142) (lv' := [(0, .ref 159)]) (st' := [.int ((Int32.ofInt 4)), .int z1411]) rfl ?_
            refine En_icEq _ rfl (by decide : (Int32.ofInt 4).toInt = 4) rfl (fun h1416 => ?_) (fun h1416 => ?_)
            · refine En_Ps 2 (pc' := 167) (lv' := [(0, .ref 159)]) (st' := [.int ((Int32.ofInt 3)), .ref 159]) rfl ?_
              have := (by decide : ((Int32.ofInt 3)).toInt = 3)
              refine En_callV rfl rfl rfl rfl rfl rfl rfl rfl tgz_159 (by decide +kernel) rfl (c_223x σ725 h726 ((Int32.ofInt 3)) (geI (by decide : (Int32.ofInt 3).toInt = 3) (by decide)) (leI (by decide : (Int32.ofInt 3).toInt = 3) (by decide)) y728 h729 h739) (by decide) (by decide) (fun v1418 σ1419 h1417 => ?_)
              obtain ⟨h1420, h1421, z1423, h1424, rfl, h1422⟩ := h1417
              have h1425 := h1422.2.2.2.2
              have h1426 := Fr_trans h727 h1421 (by decide +kernel)
              have h1427 := KF_fr h738 h1421 (by decide +kernel)
              obtain ⟨S1428, h1429⟩ : ∃ q : PS, q = err By Nb 3 (gN1 By Nb Sp) := ⟨_, rfl⟩
              have h1430 : ML By Nb σ1419 S1428 := by rw [h1429]; exact (ML_eq h1425 (err_cg (by (first | exact q_5736040b52 this | omega))))
              have h1431 := ML_k h1430 h1424
              have h1432 : S1428.2.2.2 = (gN1 By Nb Sp).2.2.2 := by rw [h1429]; exact err_w
              obtain ⟨z1434, h1433, h1435, h1436⟩ := WT_peekI h1420 tgz_165 (by decide +kernel : FT 41 (5 : Int).toNat = (0, 0, 6)) (by decide +kernel)
              exact keyj170 σ1419 z1131 z1323 z1411 z1434 z1423 y732 h1420 h1426 ((h1421 _ _ (inWa tgz_165 (by decide +kernel))).trans h1130) (by first | exact q_58e6e51dcc h1132 | omega) (by first | exact q_4b59c54ff8 h1136 h1133 | omega) ((h1421 _ _ (inWa tgz_165 (by decide +kernel))).trans h1322) (by first | exact q_58e6e51dcc h1324 | omega) (by first | exact q_f080a0e48d h1328 h1325 | omega) ((h1421 _ _ (inWa tgz_165 (by decide +kernel))).trans h1410) (by first | exact q_8aa6573b50 h1416 | omega) (by first | exact q_c82ed93a8c h1413 | omega) h1433 (by first | exact q_58e6e51dcc h1435 | omega) (by first | exact q_615333d33f h1436 | omega) h1424 (by first | exact q_996aa4c518 h1422.1 | omega) (by first | exact q_87d9217d84 h1422.2.1 | omega) ((h1421 _ _ (inW tgz_159 (by decide +kernel))).trans h733) (by first | exact q_58e6e51dcc h734 | omega) (by first | exact q_246f9048f8 h735 | omega) (by (first | exact q_f67127b06c h736 | omega)) (fun _ => by have := Imp_m h737 (by (first | exact q_d8d8e6600d h740 h1415 | omega)); (first | exact q_35a72a35ef this | omega)) (fun _ => by (first | exact q_1065cca776 h1136 h1133 | omega)) (fun _ => by (first | exact q_6db8230771 h1328 h1325 | omega)) (fun _ => by have := Imp_m h737 (by (first | exact q_d8d8e6600d h740 h1415 | omega)); omega) (fun _ => by have := Imp_m h737 (by (first | exact q_d8d8e6600d h740 h1415 | omega)); omega) (h1427) (ML_eq h1430 (by subst h1429; exact (gN2_pos (by (first | exact q_cf7049a829 h1360 h1361 h1358.1 h1358.2.1 h1414 h1416 | omega))).symm))
            · refine En_Ps 1 (pc' := 146) (lv' := [(0, .ref 159)]) (st' := [.ref 159]) rfl ?_
              refine En_ldcS (i := 1) rfl rfl rfl ?_
              refine En_callV rfl rfl rfl rfl rfl rfl rfl rfl tgz_159 (by decide +kernel) rfl (c_251s1x σ725 h726 h739) (by decide) (by decide) (fun v1438 σ1439 h1437 => ?_)
              obtain ⟨h1440, h1441, z1443, rfl, h1442⟩ := h1437
              have h1444 := h1442.2.2
              obtain rfl : σ725 = σ1439 := Fr_nil h1441
              refine En_iEq _ rfl rfl (fun h1445 => ?_) (fun h1445 => ?_)
              · obtain ⟨z1447, h1446, h1448, h1449⟩ := WT_peekI h726 tgz_165 (by decide +kernel : FT 41 (5 : Int).toNat = (0, 0, 6)) (by decide +kernel)
                exact keyj170 σ725 z1131 z1323 z1411 z1447 y728 y732 h726 h727 h1130 (by first | exact q_58e6e51dcc h1132 | omega) (by first | exact q_4b59c54ff8 h1136 h1133 | omega) h1322 (by first | exact q_58e6e51dcc h1324 | omega) (by first | exact q_f080a0e48d h1328 h1325 | omega) h1410 (by first | exact q_58e6e51dcc h1412 | omega) (by first | exact q_4b59c54ff8 h1416 h1413 | omega) h1446 (by first | exact q_58e6e51dcc h1448 | omega) (by first | exact q_615333d33f h1449 | omega) h729 (by first | exact q_58e6e51dcc h730 | omega) (by first | exact q_da5e9b976f h731 | omega) h733 (by first | exact q_58e6e51dcc h734 | omega) (by first | exact q_246f9048f8 h735 | omega) (by (first | exact q_f67127b06c h736 | omega)) (fun _ => by have := Imp_m h737 (by (first | exact q_d8d8e6600d h740 h1415 | omega)); (first | exact q_35a72a35ef this | omega)) (fun hh => by have zz : (gN1 By Nb Sp).1 = 0 := (by (first | exact q_d2dcd30e56 h1415 | omega)); have j1 := Imp_m h741 zz; have j2 := Imp_m h742 zz; have j3 := Imp_m h743 zz; have j4 := Imp_m h744 zz; (first | exact q_1065cca776 h1136 h1133 | omega)) (fun hh => by have zz : (gN1 By Nb Sp).1 = 0 := (by (first | exact q_d2dcd30e56 h1415 | omega)); have j1 := Imp_m h741 zz; have j2 := Imp_m h742 zz; have j3 := Imp_m h743 zz; have j4 := Imp_m h744 zz; (first | exact q_6db8230771 h1328 h1325 | omega)) (fun hh => by have zz : (gN1 By Nb Sp).1 = 0 := (by (first | exact q_d2dcd30e56 h1415 | omega)); have j1 := Imp_m h741 zz; have j2 := Imp_m h742 zz; have j3 := Imp_m h743 zz; have j4 := Imp_m h744 zz; (first | exact q_1065cca776 h1416 h1413 | omega)) (fun hh => by have := Imp_m h737 (by (first | exact q_35a72a35ef hh.1 | omega)); have zz : (gN1 By Nb Sp).1 = 0 := (by (first | exact q_d2dcd30e56 h1415 | omega)); have j1 := Imp_m h741 zz; have j2 := Imp_m h742 zz; have j3 := Imp_m h743 zz; have j4 := Imp_m h744 zz; (first | exact q_d615a55187 j4 hh.2 h1445 h1444 | omega)) (h738) (ML_eq h739 (gN2_neg (by omega)).symm)
              · refine En_Ps 1 (pc' := 155) (lv' := [(0, .ref 159)]) (st' := [.ref 159]) rfl ?_
                refine En_getK (j := 14) h1128 rfl rfl rfl tgz_159 (by decide +kernel) ?_
                refine En_Ps 1 (pc' := 159) (lv' := [(0, .ref 159)]) (st' := [.int ((Int32.ofInt 5)), .ref 165]) rfl ?_
                refine En_iald (l := 0) (u := 6) rfl (by decide : (Int32.ofInt 5).toInt = 5) tgz_165 (by decide +kernel) h726 (by decide) (lnI (by decide +kernel : LN _ = 226) (by decide)) (by decide +kernel) (fun z1451 h1450 h1452 h1453 => ?_)
                have h1455 : (gN1 By Nb Sp).1 = 0 := iW_g (i := 1) (B := By) (n := Nb) (by (first | exact q_8c31a76373 h1445 h1442.1 h1444 h1442.2.1 | omega))
                have h1454 : (gN1 By Nb Sp).2.2.2 5 = z1451.toInt := ML_wi h739 h1455 h1450 (by (first | decide | omega)) (by (first | decide | omega)) (by (first | decide | omega))
                refine En_Ps 1 (pc' := 162) (lv' := [(0, .ref 159)]) (st' := [.int (((Int8.ofInt 6).toInt32)), .int z1451]) rfl ?_
                refine En_icNe _ rfl (by decide : ((Int8.ofInt 6).toInt32).toInt = 6) rfl (fun h1456 => ?_) (fun h1456 => ?_)
                · exact keyj170 σ725 z1131 z1323 z1411 z1451 y728 y732 h726 h727 h1130 (by first | exact q_58e6e51dcc h1132 | omega) (by first | exact q_4b59c54ff8 h1136 h1133 | omega) h1322 (by first | exact q_58e6e51dcc h1324 | omega) (by first | exact q_f080a0e48d h1328 h1325 | omega) h1410 (by first | exact q_58e6e51dcc h1412 | omega) (by first | exact q_4b59c54ff8 h1416 h1413 | omega) h1450 (by first | exact q_58e6e51dcc h1452 | omega) (by first | exact q_b7df4df08f h1456 h1453 | omega) h729 (by first | exact q_58e6e51dcc h730 | omega) (by first | exact q_da5e9b976f h731 | omega) h733 (by first | exact q_58e6e51dcc h734 | omega) (by first | exact q_246f9048f8 h735 | omega) (by (first | exact q_f67127b06c h736 | omega)) (fun _ => by have := Imp_m h737 (by (first | exact q_d8d8e6600d h740 h1455 | omega)); (first | exact q_35a72a35ef this | omega)) (fun hh => by have zz : (gN1 By Nb Sp).1 = 0 := (by (first | exact q_d2dcd30e56 h1455 | omega)); have j1 := Imp_m h741 zz; have j2 := Imp_m h742 zz; have j3 := Imp_m h743 zz; have j4 := Imp_m h744 zz; (first | exact q_1065cca776 h1136 h1133 | omega)) (fun hh => by have zz : (gN1 By Nb Sp).1 = 0 := (by (first | exact q_d2dcd30e56 h1455 | omega)); have j1 := Imp_m h741 zz; have j2 := Imp_m h742 zz; have j3 := Imp_m h743 zz; have j4 := Imp_m h744 zz; (first | exact q_6db8230771 h1328 h1325 | omega)) (fun hh => by have zz : (gN1 By Nb Sp).1 = 0 := (by (first | exact q_d2dcd30e56 h1455 | omega)); have j1 := Imp_m h741 zz; have j2 := Imp_m h742 zz; have j3 := Imp_m h743 zz; have j4 := Imp_m h744 zz; (first | exact q_1065cca776 h1416 h1413 | omega)) (fun hh => by have zz : (gN1 By Nb Sp).1 = 0 := (by (first | exact q_d2dcd30e56 h1455 | omega)); have j1 := Imp_m h741 zz; have j2 := Imp_m h742 zz; have j3 := Imp_m h743 zz; have j4 := Imp_m h744 zz; (first | exact q_9f42007399 h1456 h1453 | omega)) (h738) (ML_eq h739 (gN2_neg (by omega)).symm)
                · refine En_Ps 2 (pc' := 167) (lv' := [(0, .ref 159)]) (st' := [.int ((Int32.ofInt 3)), .ref 159]) rfl ?_
                  have := (by decide : ((Int32.ofInt 3)).toInt = 3)
                  refine En_callV rfl rfl rfl rfl rfl rfl rfl rfl tgz_159 (by decide +kernel) rfl (c_223x σ725 h726 ((Int32.ofInt 3)) (geI (by decide : (Int32.ofInt 3).toInt = 3) (by decide)) (leI (by decide : (Int32.ofInt 3).toInt = 3) (by decide)) y728 h729 h739) (by decide) (by decide) (fun v1458 σ1459 h1457 => ?_)
                  obtain ⟨h1460, h1461, z1463, h1464, rfl, h1462⟩ := h1457
                  have h1465 := h1462.2.2.2.2
                  have h1466 := Fr_trans h727 h1461 (by decide +kernel)
                  have h1467 := KF_fr h738 h1461 (by decide +kernel)
                  obtain ⟨S1468, h1469⟩ : ∃ q : PS, q = err By Nb 3 (gN1 By Nb Sp) := ⟨_, rfl⟩
                  have h1470 : ML By Nb σ1459 S1468 := by rw [h1469]; exact (ML_eq h1465 (err_cg (by (first | exact q_5736040b52 this | omega))))
                  have h1471 := ML_k h1470 h1464
                  have h1472 : S1468.2.2.2 = (gN1 By Nb Sp).2.2.2 := by rw [h1469]; exact err_w
                  exact keyj170 σ1459 z1131 z1323 z1411 z1451 z1463 y732 h1460 h1466 ((h1461 _ _ (inWa tgz_165 (by decide +kernel))).trans h1130) (by first | exact q_58e6e51dcc h1132 | omega) (by first | exact q_4b59c54ff8 h1136 h1133 | omega) ((h1461 _ _ (inWa tgz_165 (by decide +kernel))).trans h1322) (by first | exact q_58e6e51dcc h1324 | omega) (by first | exact q_f080a0e48d h1328 h1325 | omega) ((h1461 _ _ (inWa tgz_165 (by decide +kernel))).trans h1410) (by first | exact q_58e6e51dcc h1412 | omega) (by first | exact q_4b59c54ff8 h1416 h1413 | omega) ((h1461 _ _ (inWa tgz_165 (by decide +kernel))).trans h1450) (by first | exact q_b2cec3a713 h1456 | omega) (by first | exact q_615333d33f h1453 | omega) h1464 (by first | exact q_996aa4c518 h1462.1 | omega) (by first | exact q_87d9217d84 h1462.2.1 | omega) ((h1461 _ _ (inW tgz_159 (by decide +kernel))).trans h733) (by first | exact q_58e6e51dcc h734 | omega) (by first | exact q_246f9048f8 h735 | omega) (by (first | exact q_f67127b06c h736 | omega)) (fun _ => by have := Imp_m h737 (by (first | exact q_d8d8e6600d h740 h1455 | omega)); (first | exact q_35a72a35ef this | omega)) (fun _ => by (first | exact q_1065cca776 h1136 h1133 | omega)) (fun _ => by (first | exact q_6db8230771 h1328 h1325 | omega)) (fun _ => by (first | exact q_1065cca776 h1416 h1413 | omega)) (fun _ => by have := Imp_m h737 (by (first | exact q_d8d8e6600d h740 h1455 | omega)); omega) (h1467) (ML_eq h1470 (by subst h1469; exact (gN2_pos (by (first | exact q_80b45e2ff9 h1444 h1445 h1442.1 h1442.2.1 h1454 h1456 | omega))).symm))
set_option maxRecDepth 10000 in
set_option maxHeartbeats 4000000 in
theorem c_302x {By : Int → Int} {Nb : Int} {Sp : PS} (σ0 : SG) (hσ0 : WT σ0) (f : Int32) (h_f : (σ0 159)[8]? = some (Value.int f)) (k : Int32) (h_k : (σ0 159)[12]? = some (Value.int k)) (hM : ML By Nb σ0 Sp) (hg : Sp.1 = 0) : En 9 200 none mr_302 (P_302x σ0 By Nb Sp f k) 0 [(0, .ref 159)] [] σ0 := by
  obtain ⟨hl_f, hu_f⟩ := WT_int hσ0 (g := 35) (by decide +kernel) (by decide +kernel) (l := 0) (u := 1600) (by decide +kernel) h_f
  obtain ⟨hl_k, hu_k⟩ := WT_int hσ0 (g := 35) (by decide +kernel) (by decide +kernel) (l := 0) (u := 3) (by decide +kernel) h_k
  have hF0 : Fr [(35, 8), (35, 9), (35, 10), (35, 11), (35, 12), (35, 13), (41, 0)] σ0 σ0 := Fr_rfl
  have keyj87 := k_302x_87 σ0 hσ0 f h_f k h_k hM hg
  have h1473 := ML_k hM h_k
  refine En_Ps 1 (pc' := 1) (lv' := [(0, .ref 159)]) (st' := [.ref 159]) rfl ?_
  refine En_ldcS (i := 2) rfl rfl rfl ?_
  refine En_callV rfl rfl rfl rfl rfl rfl rfl rfl tgz_159 (by decide +kernel) rfl (c_251s2x σ0 hσ0 hM) (by decide) (by decide) (fun v1475 σ1476 h1474 => ?_)
  obtain ⟨h1477, h1478, z1480, rfl, h1479⟩ := h1474
  have h1481 := h1479.2.2
  obtain rfl : σ0 = σ1476 := Fr_nil h1478
  refine En_iNe _ rfl rfl (fun h1482 => ?_) (fun h1482 => ?_)
  · refine En_Ps 4 (pc' := 79) (lv' := [(1, .int ((Int32.ofInt 1))), (0, .ref 159)]) (st' := [.int ((Int32.ofInt 1))]) rfl ?_
    refine En_iNe _ (by decide : (Int32.ofInt 1).toInt = 1) rfl (fun h1483 => ?_) (fun hx => by first | exact (q_0561915bfe hx).elim | (exfalso; omega))
    refine En_lv (lv := [(0, .ref 159)]) ⟨rfl, trivial⟩ ?_
    exact keyj87 σ0 k f hσ0 hF0 h_k (by first | exact q_58e6e51dcc hl_k | omega) (by first | exact q_da5e9b976f hu_k | omega) h_f (by first | exact q_58e6e51dcc hl_f | omega) (by first | exact q_246f9048f8 hu_f | omega) (by (first | exact q_1bb76abeaf | omega)) (fun _ => by (first | exact q_d8d8e6600d h1473 hg | omega)) ((KF_0 (σ := σ0))) (ML_eq hM (gN1_pos 2 (by (first | exact q_8c31a76373 h1482 h1479.1 h1481 h1479.2.1 | omega)) (by (first | decide | omega))).symm)
  · refine En_Ps 1 (pc' := 10) (lv' := [(0, .ref 159)]) (st' := [.ref 159]) rfl ?_
    refine En_ldcS (i := 6) rfl rfl rfl ?_
    refine En_callV rfl rfl rfl rfl rfl rfl rfl rfl tgz_159 (by decide +kernel) rfl (c_251s6x σ0 hσ0 hM) (by decide) (by decide) (fun v1485 σ1486 h1484 => ?_)
    obtain ⟨h1487, h1488, z1490, rfl, h1489⟩ := h1484
    have h1491 := h1489.2.2
    obtain rfl : σ0 = σ1486 := Fr_nil h1488
    refine En_iNe _ rfl rfl (fun h1492 => ?_) (fun h1492 => ?_)
    · refine En_Ps 4 (pc' := 79) (lv' := [(1, .int ((Int32.ofInt 1))), (0, .ref 159)]) (st' := [.int ((Int32.ofInt 1))]) rfl ?_
      refine En_iNe _ (by decide : (Int32.ofInt 1).toInt = 1) rfl (fun h1493 => ?_) (fun hx => by first | exact (q_0561915bfe hx).elim | (exfalso; omega))
      refine En_lv (lv := [(0, .ref 159)]) ⟨rfl, trivial⟩ ?_
      exact keyj87 σ0 k f hσ0 hF0 h_k (by first | exact q_58e6e51dcc hl_k | omega) (by first | exact q_da5e9b976f hu_k | omega) h_f (by first | exact q_58e6e51dcc hl_f | omega) (by first | exact q_246f9048f8 hu_f | omega) (by (first | exact q_1bb76abeaf | omega)) (fun _ => by (first | exact q_d8d8e6600d h1473 hg | omega)) ((KF_0 (σ := σ0))) (ML_eq hM (gN1_pos 6 (by (first | exact q_8c31a76373 h1492 h1489.1 h1491 h1489.2.1 | omega)) (by (first | decide | omega))).symm)
    · refine En_Ps 1 (pc' := 19) (lv' := [(0, .ref 159)]) (st' := [.ref 159]) rfl ?_
      refine En_ldcS (i := 3) rfl rfl rfl ?_
      refine En_callV rfl rfl rfl rfl rfl rfl rfl rfl tgz_159 (by decide +kernel) rfl (c_251s3x σ0 hσ0 hM) (by decide) (by decide) (fun v1495 σ1496 h1494 => ?_)
      obtain ⟨h1497, h1498, z1500, rfl, h1499⟩ := h1494
      have h1501 := h1499.2.2
      obtain rfl : σ0 = σ1496 := Fr_nil h1498
      refine En_iNe _ rfl rfl (fun h1502 => ?_) (fun h1502 => ?_)
      · refine En_Ps 4 (pc' := 79) (lv' := [(1, .int ((Int32.ofInt 1))), (0, .ref 159)]) (st' := [.int ((Int32.ofInt 1))]) rfl ?_
        refine En_iNe _ (by decide : (Int32.ofInt 1).toInt = 1) rfl (fun h1503 => ?_) (fun hx => by first | exact (q_0561915bfe hx).elim | (exfalso; omega))
        refine En_lv (lv := [(0, .ref 159)]) ⟨rfl, trivial⟩ ?_
        exact keyj87 σ0 k f hσ0 hF0 h_k (by first | exact q_58e6e51dcc hl_k | omega) (by first | exact q_da5e9b976f hu_k | omega) h_f (by first | exact q_58e6e51dcc hl_f | omega) (by first | exact q_246f9048f8 hu_f | omega) (by (first | exact q_1bb76abeaf | omega)) (fun _ => by (first | exact q_d8d8e6600d h1473 hg | omega)) ((KF_0 (σ := σ0))) (ML_eq hM (gN1_pos 3 (by (first | exact q_8c31a76373 h1502 h1499.1 h1501 h1499.2.1 | omega)) (by (first | decide | omega))).symm)
      · refine En_Ps 1 (pc' := 28) (lv' := [(0, .ref 159)]) (st' := [.ref 159]) rfl ?_
        refine En_ldcS (i := 17) rfl rfl rfl ?_
        refine En_callV rfl rfl rfl rfl rfl rfl rfl rfl tgz_159 (by decide +kernel) rfl (c_251s17x σ0 hσ0 hM) (by decide) (by decide) (fun v1505 σ1506 h1504 => ?_)
        obtain ⟨h1507, h1508, z1510, rfl, h1509⟩ := h1504
        have h1511 := h1509.2.2
        obtain rfl : σ0 = σ1506 := Fr_nil h1508
        refine En_iNe _ rfl rfl (fun h1512 => ?_) (fun h1512 => ?_)
        · refine En_Ps 4 (pc' := 79) (lv' := [(1, .int ((Int32.ofInt 1))), (0, .ref 159)]) (st' := [.int ((Int32.ofInt 1))]) rfl ?_
          refine En_iNe _ (by decide : (Int32.ofInt 1).toInt = 1) rfl (fun h1513 => ?_) (fun hx => by first | exact (q_0561915bfe hx).elim | (exfalso; omega))
          refine En_lv (lv := [(0, .ref 159)]) ⟨rfl, trivial⟩ ?_
          exact keyj87 σ0 k f hσ0 hF0 h_k (by first | exact q_58e6e51dcc hl_k | omega) (by first | exact q_da5e9b976f hu_k | omega) h_f (by first | exact q_58e6e51dcc hl_f | omega) (by first | exact q_246f9048f8 hu_f | omega) (by (first | exact q_1bb76abeaf | omega)) (fun _ => by (first | exact q_d8d8e6600d h1473 hg | omega)) ((KF_0 (σ := σ0))) (ML_eq hM (gN1_pos 17 (by (first | exact q_8c31a76373 h1512 h1509.1 h1511 h1509.2.1 | omega)) (by (first | decide | omega))).symm)
        · refine En_Ps 1 (pc' := 37) (lv' := [(0, .ref 159)]) (st' := [.ref 159]) rfl ?_
          refine En_ldcS (i := 9) rfl rfl rfl ?_
          refine En_callV rfl rfl rfl rfl rfl rfl rfl rfl tgz_159 (by decide +kernel) rfl (c_251s9x σ0 hσ0 hM) (by decide) (by decide) (fun v1515 σ1516 h1514 => ?_)
          obtain ⟨h1517, h1518, z1520, rfl, h1519⟩ := h1514
          have h1521 := h1519.2.2
          obtain rfl : σ0 = σ1516 := Fr_nil h1518
          refine En_iNe _ rfl rfl (fun h1522 => ?_) (fun h1522 => ?_)
          · refine En_Ps 4 (pc' := 79) (lv' := [(1, .int ((Int32.ofInt 1))), (0, .ref 159)]) (st' := [.int ((Int32.ofInt 1))]) rfl ?_
            refine En_iNe _ (by decide : (Int32.ofInt 1).toInt = 1) rfl (fun h1523 => ?_) (fun hx => by first | exact (q_0561915bfe hx).elim | (exfalso; omega))
            refine En_lv (lv := [(0, .ref 159)]) ⟨rfl, trivial⟩ ?_
            exact keyj87 σ0 k f hσ0 hF0 h_k (by first | exact q_58e6e51dcc hl_k | omega) (by first | exact q_da5e9b976f hu_k | omega) h_f (by first | exact q_58e6e51dcc hl_f | omega) (by first | exact q_246f9048f8 hu_f | omega) (by (first | exact q_1bb76abeaf | omega)) (fun _ => by (first | exact q_d8d8e6600d h1473 hg | omega)) ((KF_0 (σ := σ0))) (ML_eq hM (gN1_pos 9 (by (first | exact q_8c31a76373 h1522 h1519.1 h1521 h1519.2.1 | omega)) (by (first | decide | omega))).symm)
          · refine En_Ps 1 (pc' := 46) (lv' := [(0, .ref 159)]) (st' := [.ref 159]) rfl ?_
            refine En_ldcS (i := 5) rfl rfl rfl ?_
            refine En_callV rfl rfl rfl rfl rfl rfl rfl rfl tgz_159 (by decide +kernel) rfl (c_251s5x σ0 hσ0 hM) (by decide) (by decide) (fun v1525 σ1526 h1524 => ?_)
            obtain ⟨h1527, h1528, z1530, rfl, h1529⟩ := h1524
            have h1531 := h1529.2.2
            obtain rfl : σ0 = σ1526 := Fr_nil h1528
            refine En_iNe _ rfl rfl (fun h1532 => ?_) (fun h1532 => ?_)
            · refine En_Ps 4 (pc' := 79) (lv' := [(1, .int ((Int32.ofInt 1))), (0, .ref 159)]) (st' := [.int ((Int32.ofInt 1))]) rfl ?_
              refine En_iNe _ (by decide : (Int32.ofInt 1).toInt = 1) rfl (fun h1533 => ?_) (fun hx => by first | exact (q_0561915bfe hx).elim | (exfalso; omega))
              refine En_lv (lv := [(0, .ref 159)]) ⟨rfl, trivial⟩ ?_
              exact keyj87 σ0 k f hσ0 hF0 h_k (by first | exact q_58e6e51dcc hl_k | omega) (by first | exact q_da5e9b976f hu_k | omega) h_f (by first | exact q_58e6e51dcc hl_f | omega) (by first | exact q_246f9048f8 hu_f | omega) (by (first | exact q_1bb76abeaf | omega)) (fun _ => by (first | exact q_d8d8e6600d h1473 hg | omega)) ((KF_0 (σ := σ0))) (ML_eq hM (gN1_pos 5 (by (first | exact q_8c31a76373 h1532 h1529.1 h1531 h1529.2.1 | omega)) (by (first | decide | omega))).symm)
            · refine En_Ps 1 (pc' := 55) (lv' := [(0, .ref 159)]) (st' := [.ref 159]) rfl ?_
              refine En_ldcS (i := 1) rfl rfl rfl ?_
              refine En_callV rfl rfl rfl rfl rfl rfl rfl rfl tgz_159 (by decide +kernel) rfl (c_251s1x σ0 hσ0 hM) (by decide) (by decide) (fun v1535 σ1536 h1534 => ?_)
              obtain ⟨h1537, h1538, z1540, rfl, h1539⟩ := h1534
              have h1541 := h1539.2.2
              obtain rfl : σ0 = σ1536 := Fr_nil h1538
              refine En_iNe _ rfl rfl (fun h1542 => ?_) (fun h1542 => ?_)
              · refine En_Ps 4 (pc' := 79) (lv' := [(1, .int ((Int32.ofInt 1))), (0, .ref 159)]) (st' := [.int ((Int32.ofInt 1))]) rfl ?_
                refine En_iNe _ (by decide : (Int32.ofInt 1).toInt = 1) rfl (fun h1543 => ?_) (fun hx => by first | exact (q_0561915bfe hx).elim | (exfalso; omega))
                refine En_lv (lv := [(0, .ref 159)]) ⟨rfl, trivial⟩ ?_
                exact keyj87 σ0 k f hσ0 hF0 h_k (by first | exact q_58e6e51dcc hl_k | omega) (by first | exact q_da5e9b976f hu_k | omega) h_f (by first | exact q_58e6e51dcc hl_f | omega) (by first | exact q_246f9048f8 hu_f | omega) (by (first | exact q_1bb76abeaf | omega)) (fun _ => by (first | exact q_d8d8e6600d h1473 hg | omega)) ((KF_0 (σ := σ0))) (ML_eq hM (gN1_pos 1 (by (first | exact q_8c31a76373 h1542 h1539.1 h1541 h1539.2.1 | omega)) (by (first | decide | omega))).symm)
              · refine En_Ps 1 (pc' := 64) (lv' := [(0, .ref 159)]) (st' := [.ref 159]) rfl ?_
                refine En_ldcS (i := 0) rfl rfl rfl ?_
                refine En_callV rfl rfl rfl rfl rfl rfl rfl rfl tgz_159 (by decide +kernel) rfl (c_251s0x σ0 hσ0 hM) (by decide) (by decide) (fun v1545 σ1546 h1544 => ?_)
                obtain ⟨h1547, h1548, z1550, rfl, h1549⟩ := h1544
                have h1551 := h1549.2.2
                obtain rfl : σ0 = σ1546 := Fr_nil h1548
                refine En_iEq _ rfl rfl (fun h1552 => ?_) (fun h1552 => ?_)
                · refine En_Ps 3 (pc' := 79) (lv' := [(1, .int ((Int32.ofInt 0))), (0, .ref 159)]) (st' := [.int ((Int32.ofInt 0))]) rfl ?_
                  refine En_iNe _ (by decide : (Int32.ofInt 0).toInt = 0) rfl (fun hx => by first | exact (q_4a39151843 hx).elim | (exfalso; omega)) (fun h1553 => ?_)
                  refine En_Ps 2 (pc' := 84) (lv' := [(1, .int ((Int32.ofInt 0))), (0, .ref 159)]) (st' := [.int ((Int32.ofInt 1)), .ref 159]) rfl ?_
                  have := (by decide : ((Int32.ofInt 1)).toInt = 1)
                  refine En_callV rfl rfl rfl rfl rfl rfl rfl rfl tgz_159 (by decide +kernel) rfl (c_223x σ0 hσ0 ((Int32.ofInt 1)) (geI (by decide : (Int32.ofInt 1).toInt = 1) (by decide)) (leI (by decide : (Int32.ofInt 1).toInt = 1) (by decide)) k h_k hM) (by decide) (by decide) (fun v1555 σ1556 h1554 => ?_)
                  obtain ⟨h1557, h1558, z1560, h1561, rfl, h1559⟩ := h1554
                  have h1562 := h1559.2.2.2.2
                  have h1563 := Fr_trans hF0 h1558 (by decide +kernel)
                  have h1564 := KF_fr (KF_0 (σ := σ0)) h1558 (by decide +kernel)
                  obtain ⟨S1565, h1566⟩ : ∃ q : PS, q = err By Nb 1 Sp := ⟨_, rfl⟩
                  have h1567 : ML By Nb σ1556 S1565 := by rw [h1566]; exact (ML_eq h1562 (err_cg (by (first | exact q_0bfa10f27c this | omega))))
                  have h1568 := ML_k h1567 h1561
                  have h1569 : S1565.2.2.2 = Sp.2.2.2 := by rw [h1566]; exact err_w
                  refine En_lv (lv := [(0, .ref 159)]) ⟨rfl, trivial⟩ ?_
                  exact keyj87 σ1556 z1560 f h1557 h1563 h1561 (by first | exact q_996aa4c518 h1559.1 | omega) (by first | exact q_87d9217d84 h1559.2.1 | omega) ((h1558 _ _ (inW tgz_159 (by decide +kernel))).trans h_f) (by first | exact q_58e6e51dcc hl_f | omega) (by first | exact q_246f9048f8 hu_f | omega) (by (first | exact q_1bb76abeaf | omega)) (fun _ => by (first | exact q_d8d8e6600d h1473 hg | omega)) (h1564) (ML_eq h1567 (by subst h1566; exact (gN1_neg (by (first | exact q_7ed2936742 h1481 h1482 | omega)) (by (first | exact q_7ed2936742 h1491 h1492 | omega)) (by (first | exact q_7ed2936742 h1501 h1502 | omega)) (by (first | exact q_7ed2936742 h1511 h1512 | omega)) (by (first | exact q_7ed2936742 h1521 h1522 | omega)) (by (first | exact q_7ed2936742 h1531 h1532 | omega)) (by (first | exact q_7ed2936742 h1541 h1542 | omega)) (by (first | exact q_7ed2936742 h1551 h1552 | omega))).symm))
                · refine En_Ps 4 (pc' := 79) (lv' := [(1, .int ((Int32.ofInt 1))), (0, .ref 159)]) (st' := [.int ((Int32.ofInt 1))]) rfl ?_
                  refine En_iNe _ (by decide : (Int32.ofInt 1).toInt = 1) rfl (fun h1570 => ?_) (fun hx => by first | exact (q_0561915bfe hx).elim | (exfalso; omega))
                  refine En_lv (lv := [(0, .ref 159)]) ⟨rfl, trivial⟩ ?_
                  exact keyj87 σ0 k f hσ0 hF0 h_k (by first | exact q_58e6e51dcc hl_k | omega) (by first | exact q_da5e9b976f hu_k | omega) h_f (by first | exact q_58e6e51dcc hl_f | omega) (by first | exact q_246f9048f8 hu_f | omega) (by (first | exact q_1bb76abeaf | omega)) (fun _ => by (first | exact q_d8d8e6600d h1473 hg | omega)) ((KF_0 (σ := σ0))) (ML_eq hM (gN1_pos 0 (by (first | exact q_8c31a76373 h1552 h1549.1 h1551 h1549.2.1 | omega)) (by (first | decide | omega))).symm)
end
/-! 32.m08 -/
section
/-- DoorSchoolModel.readLine()V -/
abbrev P_301x (σ0 : SG) (By : Int → Int) (Nb : Int) (Sp : PS) (f : Int32) (k : Int32) (l : Int32) : PO := fun v σ => WT σ ∧ Fr [(35, 8), (35, 9), (35, 10), (35, 11), (35, 12), (35, 13), (41, 0)] σ0 σ ∧ ∃ f1 : Int32, (σ 159)[8]? = some (Value.int f1) ∧ ∃ t1 : Int32, (σ 159)[10]? = some (Value.int t1) ∧ ∃ k1 : Int32, (σ 159)[12]? = some (Value.int k1) ∧ ∃ l1 : Int32, (σ 165)[(7 : Int).toNat]? = some (Value.int l1) ∧ v = none ∧ -f1.toInt + 1 ≤ 0 ∧ f1.toInt - 1600 ≤ 0 ∧ -f1.toInt + f.toInt ≤ 0 ∧ -t1.toInt ≤ 0 ∧ t1.toInt - 4 ≤ 0 ∧ -k1.toInt ≤ 0 ∧ k1.toInt - 3 ≤ 0 ∧ -l1.toInt + 1 ≤ 0 ∧ l1.toInt - 1600 ≤ 0 ∧ -l1.toInt + l.toInt + 1 ≤ 0 ∧ l1.toInt - l.toInt - 1 ≤ 0 ∧ f.toInt - f1.toInt ≤ 0 ∧ Imp (k1.toInt ≤ 0 ∧ -t1.toInt + 1 ≤ 0) (f.toInt - f1.toInt + 1 ≤ 0) ∧ l1.toInt - l.toInt - 1 ≤ 0 ∧ -l1.toInt + l.toInt + 1 ≤ 0 ∧ ((∀ k2 : Int, k2 = k1.toInt → FI σ k2) ∧ ML By Nb σ (gLine By Nb Sp))
set_option maxRecDepth 10000 in
set_option maxHeartbeats 4000000 in
theorem c_301x {By : Int → Int} {Nb : Int} {Sp : PS} (σ0 : SG) (hσ0 : WT σ0) (f : Int32) (h_f : (σ0 159)[8]? = some (Value.int f)) (k : Int32) (h_k : (σ0 159)[12]? = some (Value.int k)) (l : Int32) (h_l : (σ0 165)[(7 : Int).toNat]? = some (Value.int l)) (hp0 : l.toInt - f.toInt + 1 ≤ 0) (hp1 : k.toInt ≤ 0) (hI : FI σ0 k.toInt) (hM : ML By Nb σ0 Sp) (hg : Sp.1 = 0) : En 10 223 none mr_301 (P_301x σ0 By Nb Sp f k l) 0 [(0, .ref 159)] [] σ0 := by
  obtain ⟨hl_f, hu_f⟩ := WT_int hσ0 (g := 35) (by decide +kernel) (by decide +kernel) (l := 0) (u := 1600) (by decide +kernel) h_f
  obtain ⟨hl_k, hu_k⟩ := WT_int hσ0 (g := 35) (by decide +kernel) (by decide +kernel) (l := 0) (u := 3) (by decide +kernel) h_k
  obtain ⟨hl_l, hu_l⟩ := WT_int hσ0 (g := 41) (by decide +kernel) (by decide +kernel) (l := 0) (u := 1600) (by decide +kernel) h_l
  have hF0 : Fr [(35, 8), (35, 9), (35, 10), (35, 11), (35, 12), (35, 13), (41, 0)] σ0 σ0 := Fr_rfl
  have h1 := ML_k hM h_k
  have h2 := ML_w hM hg h_l (by (first | decide | omega)) (by (first | decide | omega))
  refine En_Ps 1 (pc' := 1) (lv' := [(0, .ref 159)]) (st' := [.ref 159]) rfl ?_
  refine En_getU (j := 14) (u := 165) (g' := 41) (q := 0) rfl rfl rfl tgz_159 (by decide +kernel) hσ0 (by decide +kernel) un_41_165 (fun h3 => ?_)
  refine En_Ps 1 (pc' := 6) (lv' := [(0, .ref 159)]) (st' := [.int (((Int8.ofInt 7).toInt32)), .ref 165]) rfl ?_
  refine En_ialdK h_l rfl (by decide : ((Int8.ofInt 7).toInt32).toInt = 7) tgz_165 (by decide +kernel) hσ0 (by decide) (lnI (by decide +kernel : LN _ = 226) (by decide)) ?_
  refine En_iNe _ rfl rfl (fun h6 => ?_) (fun h6 => ?_)
  · refine En_Ps 1 (pc' := 48) (lv' := [(0, .ref 159)]) (st' := [.ref 159]) rfl ?_
    refine En_callV rfl rfl rfl rfl rfl rfl rfl rfl tgz_159 (by decide +kernel) rfl (c_302x σ0 hσ0 f h_f k h_k hM (by (first | exact q_d2dcd30e56 hg | omega))) (by decide) (by decide) (fun v8 σ9 h7 => ?_)
    obtain ⟨h10, h11, z13, h14, z15, h16, rfl, h12⟩ := h7
    have h17 := h12.2.2.2.2.2.2.2.2
    have h18 := Fr_trans hF0 h11 (by decide +kernel)
    obtain ⟨S19, h20⟩ : ∃ q : PS, q = gNext By Nb Sp := ⟨_, rfl⟩
    have h21 : ML By Nb σ9 S19 := by rw [h20]; exact h17.2
    have h22 := ML_k h21 h16
    obtain ⟨z24, h23, h25, h26⟩ := WT_peekI h10 tgz_159 (by decide +kernel : FT 35 10 = (0, 0, 4)) (by decide +kernel)
    have h27 := ML_k h21 h16
    have h28 : Imp (S19.1 = 0) (tK By Nb S19.2.2.1 = z24.toInt) := ML_t h21 h23
    obtain ⟨z30, h29, h31, h32⟩ := WT_peekI h10 tgz_165 (by decide +kernel : FT 41 (7 : Int).toNat = (0, 0, 1600)) (by decide +kernel)
    have h33 := ci_at h_l (rfl : (7 : Int) = 7)
    have h34 := ci_at h29 (rfl : (7 : Int) = 7)
    have h35 := h17.1 7 (by (first | decide | omega))
    refine En_Ps 1 (pc' := 52) (lv' := [(0, .ref 159)]) (st' := [.ref 159]) rfl ?_
    refine En_callV rfl rfl rfl rfl rfl rfl rfl rfl tgz_159 (by decide +kernel) rfl (c_237 σ9 h10 z15 h16) (by decide) (by decide) (fun v37 σ38 h36 => ?_)
    obtain ⟨h39, h40, z42, rfl, h41⟩ := h36
    obtain rfl : σ9 = σ38 := Fr_nil h40
    refine En_iEq _ rfl rfl (fun h43 => ?_) (fun h43 => ?_)
    · refine En_Ps 1 (pc' := 72) (lv' := [(0, .ref 159)]) (st' := [.ref 159]) rfl ?_
      refine En_callV rfl rfl rfl rfl rfl rfl rfl rfl tgz_159 (by decide +kernel) rfl (c_237 σ9 h10 z15 h16) (by decide) (by decide) (fun v45 σ46 h44 => ?_)
      obtain ⟨h47, h48, z50, rfl, h49⟩ := h44
      obtain rfl : σ9 = σ46 := Fr_nil h48
      refine En_iEq _ rfl rfl (fun h51 => ?_) (fun hx => by exfalso; have := Imp_m h12.2.2.2.2.2.2.2.1 (by (first | exact q_59622b1fc0 h49.2.2.1 hx h49.1 | omega)); (first | exact q_cffee5c382 h41.2.2.2 h43 h49.2.2.1 hx h49.1 | omega))
      obtain ⟨S52, h53⟩ : ∃ q : PS, q = adv By Nb S19 := ⟨_, rfl⟩
      have h54 : ML By Nb σ9 S52 := by rw [h53]; exact (ML_eq h21 (adv_bad (by (first | exact q_fdf04f5fe0 h49.2.2.2 h51 h27 | omega))).symm)
      have h55 := ML_k h54 h16
      have h56 : Imp (S52.1 = 0) (tK By Nb S52.2.2.1 = z24.toInt) := ML_t h54 h23
      refine En_Ps 1 (pc' := 83) (lv' := [(0, .ref 159)]) (st' := [.ref 159]) rfl ?_
      refine En_getK (j := 14) ((h11 _ _ (inW tgz_159 (by decide +kernel))).trans h3) rfl rfl rfl tgz_159 (by decide +kernel) ?_
      refine En_Ps 2 (pc' := 89) (lv' := [(0, .ref 159)]) (st' := [.int (((Int8.ofInt 7).toInt32)), .ref 165, .int (((Int8.ofInt 7).toInt32)), .ref 165]) rfl ?_
      refine En_ialdK h29 rfl (by decide : ((Int8.ofInt 7).toInt32).toInt = 7) tgz_165 (by decide +kernel) h10 (by decide) (lnI (by decide +kernel : LN _ = 226) (by decide)) ?_
      refine En_Ps 2 (pc' := 92) (lv' := [(0, .ref 159)]) (st' := [.int ((z30 + ((Int32.ofInt 1)))), .int (((Int8.ofInt 7).toInt32)), .ref 165]) rfl ?_
      refine En_top (addI rfl (by decide : (Int32.ofInt 1).toInt = 1) (by first | exact q_465ab79ac1 h31 | omega) (by first | exact q_1c9c6c18a7 h32 | omega)) (fun z58 h59 => ?_)
      refine En_iast (l := 0) (u := 1600) rfl (by decide : ((Int8.ofInt 7).toInt32).toInt = 7) tgz_165 (by decide +kernel) (by decide) (lnI (by decide +kernel : LN _ = 226) (by decide)) (by decide +kernel) (rngI rfl (by first | exact q_35104ce9d3 h59 h31 | omega) (by (first | exact q_c87f6a6dca h59 h34 h35 h33 hp0 hu_f | omega))) h10 h18 (by decide +kernel) (fun σ60 h61 h62 h63 h64 => ?_)
      obtain ⟨S65, h66⟩ : ∃ q : PS, q = wst S52 (7) (Sp.2.2.2 7 + 1) := ⟨_, rfl⟩
      have h67 : ML By Nb σ60 S65 := by rw [h66]; exact (ML_wst (i := 7) (v := Sp.2.2.2 7 + 1) h54 h63 h64 (by (first | decide | omega)) (fun z => by have j1 := Imp_m h56 z; exact ⟨by (first | decide | omega), by (first | exact q_6b72e7736a h59 h34 h2 h35 h33 | omega)⟩))
      have h68 := ML_k h67 ((h64 _ _ (Or.inl (neTG tgz_159 tgz_165 (by decide)))).trans h16)
      have h69 : Imp (S65.1 = 0) (tK By Nb S65.2.2.1 = z24.toInt) := ML_t h67 ((h64 _ _ (Or.inl (neTG tgz_159 tgz_165 (by decide)))).trans h23)
      have h70 : S65.1 = S52.1 := by rw [h66]; rfl
      have h71 : ci σ60 165 6 = ci σ0 165 6 := by rw [ci_st h63 h64 (by (first | decide | omega)) 6 (by (first | decide | omega)), if_neg (by (first | decide | omega)), h17.1 6 (by (first | decide | omega))]
      have h73 : ci σ60 165 7 = z58.toInt := by rw [ci_st h63 h64 (by (first | decide | omega)) 7 (by (first | decide | omega)), if_pos rfl]
      have h72 : ci σ60 165 1 = ci σ0 165 1 := by rw [ci_st h63 h64 (by (first | decide | omega)) 1 (by (first | decide | omega)), if_neg (by (first | decide | omega)), h17.1 1 (by (first | decide | omega))]
      have h74 := ci_at h_l (rfl : (7 : Int) = 7)
      exact En_ret (v := none) rfl rfl rfl ⟨h61, h62, z13, ((h64 _ _ (Or.inl (neTG tgz_159 tgz_165 (by decide)))).trans h14), z24, ((h64 _ _ (Or.inl (neTG tgz_159 tgz_165 (by decide)))).trans h23), z15, ((h64 _ _ (Or.inl (neTG tgz_159 tgz_165 (by decide)))).trans h16), z58, h63, rfl, ⟨by first | exact q_8c58de1fa6 h12.2.2.1 hp0 h6 hl_l | omega, by first | exact q_76190b61a3 h12.2.1 | omega, by first | exact q_d22b102a8e h12.2.2.1 | omega, by first | exact q_c803b490ef h25 | omega, by first | exact q_3919a0a4ce h26 | omega, by first | exact q_a555021d16 h12.2.2.2.1 | omega, by first | exact q_c733b715bf h12.2.2.2.2.1 | omega, by first | exact q_eeff886842 h59 h31 | omega, by (first | exact q_8f35cfe366 h59 h34 h35 h74 hp0 hu_f | omega), by (first | exact q_c793529e53 h74 h59 h35 h34 | omega), by (first | exact q_57f1065df6 h74 h59 h35 h34 | omega), by first | exact q_83f4b1e050 h12.2.2.1 | omega, fun _ => by have := Imp_m h12.2.2.2.2.2.2.2.1 (by omega); omega, by (first | exact q_57f1065df6 h74 h59 h35 h34 | omega), by (first | exact q_c793529e53 h74 h59 h35 h34 | omega), ⟨fun k2 hk2 => ⟨h71.trans hI.1, fun hz => ⟨fun _ => by rw [h72]; exact (hI.2 (by (first | exact q_66af5a274d hl_k hp1 | omega))).1 (by (first | exact q_cc9918c2d9 h49.2.2.2 h51 hk2 hz | omega)), fun z7 => (by (first | exact q_8bb5343f05 h49.2.2.2 h51 hk2 hz | omega))⟩⟩, ML_eq h67 (by subst h66; subst h53; subst h20; unfold gLine fFirst gL1; dsimp only; first | done | rfl | ((repeat' split) <;> first | rfl | (exfalso; omega) | ((try have i0 := Imp_m h69 (by omega)); (try have i1 := Imp_m h56 (by omega)); (try have i2 := Imp_m h28 (by omega)); (try have i3 := Imp_m h12.2.2.2.2.2.2.2.1 (by omega)); exfalso; omega)))⟩⟩⟩
    · have h75 := Imp_m h12.2.2.2.2.2.2.2.1 (by (first | exact q_59622b1fc0 h41.2.2.1 h43 h41.1 | omega))
      try have h76 := Imp_m h28 (by (first | exact q_1d088e2de8 h27 h12.2.2.2.1 h41.2.2.1 h43 h41.1 | omega))
      refine En_Ps 1 (pc' := 59) (lv' := [(0, .ref 159)]) (st' := [.ref 159]) rfl ?_
      refine En_getK (j := 10) h23 rfl rfl rfl tgz_159 (by decide +kernel) ?_
      refine En_Ps 1 (pc' := 63) (lv' := [(0, .ref 159)]) (st' := [.int ((Int32.ofInt 3)), .int z24]) rfl ?_
      refine En_icEq _ rfl (by decide : (Int32.ofInt 3).toInt = 3) rfl (fun h77 => ?_) (fun h77 => ?_)
      · refine En_Ps 1 (pc' := 72) (lv' := [(0, .ref 159)]) (st' := [.ref 159]) rfl ?_
        refine En_callV rfl rfl rfl rfl rfl rfl rfl rfl tgz_159 (by decide +kernel) rfl (c_237 σ9 h10 z15 h16) (by decide) (by decide) (fun v79 σ80 h78 => ?_)
        obtain ⟨h81, h82, z84, rfl, h83⟩ := h78
        obtain rfl : σ9 = σ80 := Fr_nil h82
        refine En_iEq _ rfl rfl (fun hx => by exfalso; (first | exact q_d43525113b h41.2.2.1 h43 h41.1 h83.2.2.2 hx | omega)) (fun h85 => ?_)
        try have h86 := Imp_m h28 (by (first | exact q_1d088e2de8 h27 h12.2.2.2.1 h83.2.2.1 h85 h83.1 | omega))
        refine En_Ps 1 (pc' := 79) (lv' := [(0, .ref 159)]) (st' := [.ref 159]) rfl ?_
        refine En_callV rfl rfl rfl rfl rfl rfl rfl rfl tgz_159 (by decide +kernel) rfl (c_189x σ9 h10 z13 h14 h21.1 (ML_at h21 (by (first | exact q_1d088e2de8 h27 h12.2.2.2.1 h83.2.2.1 h85 h83.1 | omega)) h14)) (by decide) (by decide) (fun v88 σ89 h87 => ?_)
        obtain ⟨h90, h91, z93, h94, z95, h96, rfl, h92⟩ := h87
        have h97 := h92.2.2.2.2.2.2.2
        have h98 := Fr_trans h18 h91 (by decide +kernel)
        obtain ⟨S99, h100⟩ : ∃ q : PS, q = adv By Nb S19 := ⟨_, rfl⟩
        have h101 : ML By Nb σ89 S99 := by rw [h100]; exact (ML_adv h21 (by (first | exact q_1d088e2de8 h27 h12.2.2.2.1 h83.2.2.1 h85 h83.1 | omega)) h14 h91 (by decide +kernel) h97.2)
        have h102 := ML_k h101 ((h91 _ _ (inW tgz_159 (by decide +kernel))).trans h16)
        have h103 : Imp (S99.1 = 0) (tK By Nb S99.2.2.1 = z95.toInt) := ML_t h101 h96
        have h104 : S99.2.2.2 = S19.2.2.2 := by rw [h100]; exact adv_w
        refine En_Ps 1 (pc' := 83) (lv' := [(0, .ref 159)]) (st' := [.ref 159]) rfl ?_
        refine En_getK (j := 14) ((h91 _ _ (inW tgz_159 (by decide +kernel))).trans ((h11 _ _ (inW tgz_159 (by decide +kernel))).trans h3)) rfl rfl rfl tgz_159 (by decide +kernel) ?_
        refine En_Ps 2 (pc' := 89) (lv' := [(0, .ref 159)]) (st' := [.int (((Int8.ofInt 7).toInt32)), .ref 165, .int (((Int8.ofInt 7).toInt32)), .ref 165]) rfl ?_
        refine En_ialdK ((h91 _ _ (inWa tgz_165 (by decide +kernel))).trans h29) rfl (by decide : ((Int8.ofInt 7).toInt32).toInt = 7) tgz_165 (by decide +kernel) h90 (by decide) (lnI (by decide +kernel : LN _ = 226) (by decide)) ?_
        refine En_Ps 2 (pc' := 92) (lv' := [(0, .ref 159)]) (st' := [.int ((z30 + ((Int32.ofInt 1)))), .int (((Int8.ofInt 7).toInt32)), .ref 165]) rfl ?_
        refine En_top (addI rfl (by decide : (Int32.ofInt 1).toInt = 1) (by first | exact q_465ab79ac1 h31 | omega) (by first | exact q_1c9c6c18a7 h32 | omega)) (fun z106 h107 => ?_)
        refine En_iast (l := 0) (u := 1600) rfl (by decide : ((Int8.ofInt 7).toInt32).toInt = 7) tgz_165 (by decide +kernel) (by decide) (lnI (by decide +kernel : LN _ = 226) (by decide)) (by decide +kernel) (rngI rfl (by first | exact q_35104ce9d3 h107 h31 | omega) (by (first | exact q_c87f6a6dca h107 h34 h35 h33 hp0 hu_f | omega))) h90 h98 (by decide +kernel) (fun σ108 h109 h110 h111 h112 => ?_)
        obtain ⟨S113, h114⟩ : ∃ q : PS, q = wst S99 (7) (Sp.2.2.2 7 + 1) := ⟨_, rfl⟩
        have h115 : ML By Nb σ108 S113 := by rw [h114]; exact (ML_wst (i := 7) (v := Sp.2.2.2 7 + 1) h101 h111 h112 (by (first | decide | omega)) (fun z => by have j1 := Imp_m h103 z; exact ⟨by (first | decide | omega), by (first | exact q_6b72e7736a h107 h34 h2 h35 h33 | omega)⟩))
        have h116 := ML_k h115 ((h112 _ _ (Or.inl (neTG tgz_159 tgz_165 (by decide)))).trans ((h91 _ _ (inW tgz_159 (by decide +kernel))).trans h16))
        have h117 : Imp (S113.1 = 0) (tK By Nb S113.2.2.1 = z95.toInt) := ML_t h115 ((h112 _ _ (Or.inl (neTG tgz_159 tgz_165 (by decide)))).trans h96)
        have h118 : S113.1 = S99.1 := by rw [h114]; rfl
        have h119 : ci σ108 165 6 = ci σ0 165 6 := by rw [ci_st h111 h112 (by (first | decide | omega)) 6 (by (first | decide | omega)), if_neg (by (first | decide | omega)), ci_fr h91 tgz_165 (by decide +kernel) 6, h17.1 6 (by (first | decide | omega))]
        have h121 : ci σ108 165 7 = z106.toInt := by rw [ci_st h111 h112 (by (first | decide | omega)) 7 (by (first | decide | omega)), if_pos rfl]
        have h120 : ci σ108 165 1 = ci σ0 165 1 := by rw [ci_st h111 h112 (by (first | decide | omega)) 1 (by (first | decide | omega)), if_neg (by (first | decide | omega)), ci_fr h91 tgz_165 (by decide +kernel) 1, h17.1 1 (by (first | decide | omega))]
        have h122 := ci_at h_l (rfl : (7 : Int) = 7)
        exact En_ret (v := none) rfl rfl rfl ⟨h109, h110, z93, ((h112 _ _ (Or.inl (neTG tgz_159 tgz_165 (by decide)))).trans h94), z95, ((h112 _ _ (Or.inl (neTG tgz_159 tgz_165 (by decide)))).trans h96), z15, ((h112 _ _ (Or.inl (neTG tgz_159 tgz_165 (by decide)))).trans ((h91 _ _ (inW tgz_159 (by decide +kernel))).trans h16)), z106, h111, rfl, ⟨by first | exact q_1bafaf3e85 h92.2.2.1 h12.2.2.1 hp0 h6 hl_l | omega, by first | exact q_76190b61a3 h92.2.1 | omega, by first | exact q_ccc3bb8fc9 h12.2.2.1 h92.2.2.1 | omega, by first | exact q_a555021d16 h92.2.2.2.1 | omega, by first | exact q_05cffb065e h92.2.2.2.2.1 | omega, by first | exact q_a555021d16 h12.2.2.2.1 | omega, by first | exact q_c733b715bf h12.2.2.2.2.1 | omega, by first | exact q_eeff886842 h107 h31 | omega, by (first | exact q_8f35cfe366 h107 h34 h35 h122 hp0 hu_f | omega), by (first | exact q_c793529e53 h122 h107 h35 h34 | omega), by (first | exact q_57f1065df6 h122 h107 h35 h34 | omega), by first | exact q_28bfca2c13 h12.2.2.1 h92.2.2.1 | omega, fun _ => by have := Imp_m h92.2.2.2.2.2.2.1 (by omega); (first | exact q_33fafcf4da this h12.2.2.1 | omega), by (first | exact q_57f1065df6 h122 h107 h35 h34 | omega), by (first | exact q_c793529e53 h122 h107 h35 h34 | omega), ⟨fun k2 hk2 => ⟨h119.trans hI.1, fun hz => ⟨fun _ => by rw [h120]; exact (hI.2 (by (first | exact q_66af5a274d hl_k h75 | omega))).1 (by (first | exact q_e01a17612b h6 hl_l h122 | omega)), fun z7 => (by (first | exact q_8b99002894 z7 h121 h107 h31 | omega))⟩⟩, ML_eq h115 (by subst h114; subst h100; subst h20; unfold gLine fFirst gL1; dsimp only; first | done | rfl | ((repeat' split) <;> first | rfl | (exfalso; omega) | ((try have i0 := Imp_m h117 (by omega)); (try have i1 := Imp_m h103 (by omega)); (try have i2 := Imp_m h28 (by omega)); (try have i3 := Imp_m h92.2.2.2.2.2.2.1 (by omega)); exfalso; omega)))⟩⟩⟩
      · refine En_Ps 2 (pc' := 68) (lv' := [(0, .ref 159)]) (st' := [.int ((Int32.ofInt 1)), .ref 159]) rfl ?_
        have := (by decide : ((Int32.ofInt 1)).toInt = 1)
        refine En_callV rfl rfl rfl rfl rfl rfl rfl rfl tgz_159 (by decide +kernel) rfl (c_223x σ9 h10 ((Int32.ofInt 1)) (geI (by decide : (Int32.ofInt 1).toInt = 1) (by decide)) (leI (by decide : (Int32.ofInt 1).toInt = 1) (by decide)) z15 h16 h21) (by decide) (by decide) (fun v124 σ125 h123 => ?_)
        obtain ⟨h126, h127, z129, h130, rfl, h128⟩ := h123
        have h131 := h128.2.2.2.2
        have h132 := Fr_trans h18 h127 (by decide +kernel)
        obtain ⟨S133, h134⟩ : ∃ q : PS, q = err By Nb 1 S19 := ⟨_, rfl⟩
        have h135 : ML By Nb σ125 S133 := by rw [h134]; exact (ML_eq h131 (err_cg (by (first | exact q_0bfa10f27c this | omega))))
        have h136 := ML_k h135 h130
        have h137 : Imp (S133.1 = 0) (tK By Nb S133.2.2.1 = z24.toInt) := ML_t h135 ((h127 _ _ (inW tgz_159 (by decide +kernel))).trans h23)
        have h138 : S133.2.2.2 = S19.2.2.2 := by rw [h134]; exact err_w
        refine En_Ps 1 (pc' := 72) (lv' := [(0, .ref 159)]) (st' := [.ref 159]) rfl ?_
        refine En_callV rfl rfl rfl rfl rfl rfl rfl rfl tgz_159 (by decide +kernel) rfl (c_237 σ125 h126 z129 h130) (by decide) (by decide) (fun v140 σ141 h139 => ?_)
        obtain ⟨h142, h143, z145, rfl, h144⟩ := h139
        obtain rfl : σ125 = σ141 := Fr_nil h143
        refine En_iEq _ rfl rfl (fun h146 => ?_) (fun hx => by exfalso; (first | exact q_ee856db709 h144.2.2.1 hx h144.1 h128.1 | omega))
        obtain ⟨S147, h148⟩ : ∃ q : PS, q = adv By Nb S133 := ⟨_, rfl⟩
        have h149 : ML By Nb σ125 S147 := by rw [h148]; exact (ML_eq h135 (adv_bad (by (first | exact q_27472ec939 h136 h128.1 | omega))).symm)
        have h150 := ML_k h149 h130
        have h151 : Imp (S147.1 = 0) (tK By Nb S147.2.2.1 = z24.toInt) := ML_t h149 ((h127 _ _ (inW tgz_159 (by decide +kernel))).trans h23)
        refine En_Ps 1 (pc' := 83) (lv' := [(0, .ref 159)]) (st' := [.ref 159]) rfl ?_
        refine En_getK (j := 14) ((h127 _ _ (inW tgz_159 (by decide +kernel))).trans ((h11 _ _ (inW tgz_159 (by decide +kernel))).trans h3)) rfl rfl rfl tgz_159 (by decide +kernel) ?_
        refine En_Ps 2 (pc' := 89) (lv' := [(0, .ref 159)]) (st' := [.int (((Int8.ofInt 7).toInt32)), .ref 165, .int (((Int8.ofInt 7).toInt32)), .ref 165]) rfl ?_
        refine En_ialdK ((h127 _ _ (inWa tgz_165 (by decide +kernel))).trans h29) rfl (by decide : ((Int8.ofInt 7).toInt32).toInt = 7) tgz_165 (by decide +kernel) h126 (by decide) (lnI (by decide +kernel : LN _ = 226) (by decide)) ?_
        refine En_Ps 2 (pc' := 92) (lv' := [(0, .ref 159)]) (st' := [.int ((z30 + ((Int32.ofInt 1)))), .int (((Int8.ofInt 7).toInt32)), .ref 165]) rfl ?_
        refine En_top (addI rfl (by decide : (Int32.ofInt 1).toInt = 1) (by first | exact q_465ab79ac1 h31 | omega) (by first | exact q_1c9c6c18a7 h32 | omega)) (fun z153 h154 => ?_)
        refine En_iast (l := 0) (u := 1600) rfl (by decide : ((Int8.ofInt 7).toInt32).toInt = 7) tgz_165 (by decide +kernel) (by decide) (lnI (by decide +kernel : LN _ = 226) (by decide)) (by decide +kernel) (rngI rfl (by first | exact q_35104ce9d3 h154 h31 | omega) (by (first | exact q_c87f6a6dca h154 h34 h35 h33 hp0 hu_f | omega))) h126 h132 (by decide +kernel) (fun σ155 h156 h157 h158 h159 => ?_)
        obtain ⟨S160, h161⟩ : ∃ q : PS, q = wst S147 (7) (Sp.2.2.2 7 + 1) := ⟨_, rfl⟩
        have h162 : ML By Nb σ155 S160 := by rw [h161]; exact (ML_wst (i := 7) (v := Sp.2.2.2 7 + 1) h149 h158 h159 (by (first | decide | omega)) (fun z => by have j1 := Imp_m h151 z; exact ⟨by (first | decide | omega), by (first | exact q_6b72e7736a h154 h34 h2 h35 h33 | omega)⟩))
        have h163 := ML_k h162 ((h159 _ _ (Or.inl (neTG tgz_159 tgz_165 (by decide)))).trans h130)
        have h164 : Imp (S160.1 = 0) (tK By Nb S160.2.2.1 = z24.toInt) := ML_t h162 ((h159 _ _ (Or.inl (neTG tgz_159 tgz_165 (by decide)))).trans ((h127 _ _ (inW tgz_159 (by decide +kernel))).trans h23))
        have h165 : S160.1 = S147.1 := by rw [h161]; rfl
        have h166 : ci σ155 165 6 = ci σ0 165 6 := by rw [ci_st h158 h159 (by (first | decide | omega)) 6 (by (first | decide | omega)), if_neg (by (first | decide | omega)), ci_fr h127 tgz_165 (by decide +kernel) 6, h17.1 6 (by (first | decide | omega))]
        have h168 : ci σ155 165 7 = z153.toInt := by rw [ci_st h158 h159 (by (first | decide | omega)) 7 (by (first | decide | omega)), if_pos rfl]
        have h167 : ci σ155 165 1 = ci σ0 165 1 := by rw [ci_st h158 h159 (by (first | decide | omega)) 1 (by (first | decide | omega)), if_neg (by (first | decide | omega)), ci_fr h127 tgz_165 (by decide +kernel) 1, h17.1 1 (by (first | decide | omega))]
        have h169 := ci_at h_l (rfl : (7 : Int) = 7)
        exact En_ret (v := none) rfl rfl rfl ⟨h156, h157, z13, ((h159 _ _ (Or.inl (neTG tgz_159 tgz_165 (by decide)))).trans ((h127 _ _ (inW tgz_159 (by decide +kernel))).trans h14)), z24, ((h159 _ _ (Or.inl (neTG tgz_159 tgz_165 (by decide)))).trans ((h127 _ _ (inW tgz_159 (by decide +kernel))).trans h23)), z129, ((h159 _ _ (Or.inl (neTG tgz_159 tgz_165 (by decide)))).trans h130), z153, h158, rfl, ⟨by first | exact q_8c58de1fa6 h12.2.2.1 hp0 h6 hl_l | omega, by first | exact q_76190b61a3 h12.2.1 | omega, by first | exact q_d22b102a8e h12.2.2.1 | omega, by first | exact q_c803b490ef h25 | omega, by first | exact q_3919a0a4ce h26 | omega, by first | exact q_1a6ee862c1 h128.1 | omega, by first | exact q_c733b715bf h128.2.1 | omega, by first | exact q_eeff886842 h154 h31 | omega, by (first | exact q_8f35cfe366 h154 h34 h35 h169 hp0 hu_f | omega), by (first | exact q_c793529e53 h169 h154 h35 h34 | omega), by (first | exact q_57f1065df6 h169 h154 h35 h34 | omega), by first | exact q_83f4b1e050 h12.2.2.1 | omega, fun _ => by omega, by (first | exact q_57f1065df6 h169 h154 h35 h34 | omega), by (first | exact q_c793529e53 h169 h154 h35 h34 | omega), ⟨fun k2 hk2 => ⟨h166.trans hI.1, fun hz => ⟨fun _ => by rw [h167]; exact (hI.2 (by (first | exact q_66af5a274d hl_k h75 | omega))).1 (by (first | exact q_cc9918c2d9 h144.2.2.2 h146 hk2 hz | omega)), fun z7 => (by (first | exact q_8bb5343f05 h144.2.2.2 h146 hk2 hz | omega))⟩⟩, ML_eq h162 (by subst h161; subst h148; subst h134; subst h20; unfold gLine fFirst gL1; dsimp only; first | done | rfl | ((repeat' split) <;> first | rfl | (exfalso; omega) | ((try have i0 := Imp_m h164 (by omega)); (try have i1 := Imp_m h151 (by omega)); (try have i2 := Imp_m h137 (by omega)); (try have i3 := Imp_m h28 (by omega)); exfalso; omega)))⟩⟩⟩
  · refine En_Ps 1 (pc' := 11) (lv' := [(0, .ref 159)]) (st' := [.ref 159]) rfl ?_
    refine En_ldcS (i := 10) rfl rfl rfl ?_
    refine En_callV rfl rfl rfl rfl rfl rfl rfl rfl tgz_159 (by decide +kernel) rfl (c_286s10x σ0 hσ0 f h_f k h_k hM) (by decide) (by decide) (fun v171 σ172 h170 => ?_)
    obtain ⟨h173, h174, z176, h177, z178, h179, rfl, h175⟩ := h170
    have h180 := h175.2.2.2.2.2.2.2.2
    have h181 := Fr_trans hF0 h174 (by decide +kernel)
    obtain ⟨S182, h183⟩ : ∃ q : PS, q = pss By Nb (iW By Nb 10 Sp) Sp := ⟨_, rfl⟩
    have h184 : ML By Nb σ172 S182 := by rw [h183]; exact h180
    have h185 := ML_k h184 h179
    refine En_Ps 1 (pc' := 17) (lv' := [(0, .ref 159)]) (st' := [.ref 159]) rfl ?_
    refine En_getK (j := 14) ((h174 _ _ (inW tgz_159 (by decide +kernel))).trans h3) rfl rfl rfl tgz_159 (by decide +kernel) ?_
    refine En_Ps 2 (pc' := 22) (lv' := [(0, .ref 159)]) (st' := [.ref 159, .int ((Int32.ofInt 0)), .ref 165]) rfl ?_
    refine En_ldcS (i := 13) rfl rfl rfl ?_
    refine En_Ps 2 (pc' := 26) (lv' := [(0, .ref 159)]) (st' := [.int ((Int32.ofInt 4)), .int ((Int32.ofInt 2)), .retAddr 27, .ref 159, .int ((Int32.ofInt 0)), .ref 165]) rfl ?_
    have := (by decide : ((Int32.ofInt 2)).toInt = 2)
    have := (by decide : ((Int32.ofInt 4)).toInt = 4)
    refine En_callV rfl rfl rfl rfl rfl rfl rfl rfl tgz_159 (by decide +kernel) rfl (c_323s13x σ172 h173 ((Int32.ofInt 2)) ((Int32.ofInt 4)) (geI (by decide : (Int32.ofInt 2).toInt = 2) (by decide)) (leI (by decide : (Int32.ofInt 2).toInt = 2) (by decide)) (geI (by decide : (Int32.ofInt 4).toInt = 4) (by decide)) (leI (by decide : (Int32.ofInt 4).toInt = 4) (by decide)) z176 h177 z178 h179 h184) (by decide) (by decide) (fun v187 σ188 h186 => ?_)
    obtain ⟨h189, h190, z192, h193, z194, h195, z196, rfl, h191⟩ := h186
    have h197 := h191.2.2.2.2.2.2.2.2.2.2.2.2.2.2
    have h198 := Fr_trans h181 h190 (by decide +kernel)
    obtain ⟨S199, h200⟩ : ∃ q : PS, q = pss By Nb (iW By Nb 13 S182) S182 := ⟨_, rfl⟩
    have h201 : tN By Nb ((Int32.ofInt 2)).toInt ((Int32.ofInt 4)).toInt (pss By Nb (iW By Nb 13 S182) S182) = tN By Nb (2) (4) S199 := by rw [h200]; exact tN_cg2 (fun _ => by (first | exact q_bef0c64981 (by decide) | omega)) (fun _ => by (first | exact q_d0a5206d26 this | omega))
    obtain ⟨S202, h203⟩ : ∃ q : PS, q = tN By Nb (2) (4) S199 := ⟨_, rfl⟩
    have h204 : ML By Nb σ188 S202 := by rw [h203]; exact (ML_eq h197.1 h201)
    have h205 := ML_k h204 h195
    have h206 : Imp (S202.1 = 0) (z196.toInt = tV By Nb S199.2.2.1) := fun z => by rw [h200]; exact h197.2 (by rw [h201, ← h203]; exact z)
    have h207 := Imp_m h191.2.2.2.2.2.2.2.2.2.2.1 (by (first | exact q_1984c8b6d4 (by decide) | omega))
    have h208 := Imp_m h191.2.2.2.2.2.2.2.2.2.2.2.1 (by (first | exact q_405755f924 this | omega))
    refine En_iast (l := 0) (u := 4) rfl (by decide : (Int32.ofInt 0).toInt = 0) tgz_165 (by decide +kernel) (by decide) (lnI (by decide +kernel : LN _ = 226) (by decide)) (by decide +kernel) (rngI rfl (by first | exact q_ef1e8e38bf h191.1 | omega) (by (first | exact q_9799a3bf7d h208 this | omega))) h189 h198 (by decide +kernel) (fun σ209 h210 h211 h212 h213 => ?_)
    obtain ⟨S214, h215⟩ : ∃ q : PS, q = wst S202 (0) ((tV By Nb S199.2.2.1)) := ⟨_, rfl⟩
    have h216 : ML By Nb σ209 S214 := by rw [h215]; exact (ML_wst (i := 0) (v := (tV By Nb S199.2.2.1)) h204 h212 h213 (by (first | decide | omega)) (fun z => by have j1 := Imp_m h206 z; exact ⟨by (first | decide | omega), by (first | exact q_a8fb2024c1 j1 | omega)⟩))
    have h217 := ML_k h216 ((h213 _ _ (Or.inl (neTG tgz_159 tgz_165 (by decide)))).trans h195)
    have h218 : S214.1 = S202.1 := by rw [h215]; rfl
    refine En_Ps 1 (pc' := 31) (lv' := [(0, .ref 159)]) (st' := [.ref 159]) rfl ?_
    refine En_getK (j := 14) ((h213 _ _ (Or.inl (neTG tgz_159 tgz_165 (by decide)))).trans ((h190 _ _ (inW tgz_159 (by decide +kernel))).trans ((h174 _ _ (inW tgz_159 (by decide +kernel))).trans h3))) rfl rfl rfl tgz_159 (by decide +kernel) ?_
    refine En_Ps 2 (pc' := 36) (lv' := [(0, .ref 159)]) (st' := [.ref 159, .int ((Int32.ofInt 1)), .ref 165]) rfl ?_
    refine En_ldcS (i := 16) rfl rfl rfl ?_
    refine En_Ps 2 (pc' := 40) (lv' := [(0, .ref 159)]) (st' := [.int ((Int32.ofInt 3)), .int ((Int32.ofInt 1)), .retAddr 33, .ref 159, .int ((Int32.ofInt 1)), .ref 165]) rfl ?_
    have := (by decide : ((Int32.ofInt 1)).toInt = 1)
    have := (by decide : ((Int32.ofInt 3)).toInt = 3)
    refine En_callV rfl rfl rfl rfl rfl rfl rfl rfl tgz_159 (by decide +kernel) rfl (c_323s16x σ209 h210 ((Int32.ofInt 1)) ((Int32.ofInt 3)) (geI (by decide : (Int32.ofInt 1).toInt = 1) (by decide)) (leI (by decide : (Int32.ofInt 1).toInt = 1) (by decide)) (geI (by decide : (Int32.ofInt 3).toInt = 3) (by decide)) (leI (by decide : (Int32.ofInt 3).toInt = 3) (by decide)) z192 ((h213 _ _ (Or.inl (neTG tgz_159 tgz_165 (by decide)))).trans h193) z194 ((h213 _ _ (Or.inl (neTG tgz_159 tgz_165 (by decide)))).trans h195) h216) (by decide) (by decide) (fun v220 σ221 h219 => ?_)
    obtain ⟨h222, h223, z225, h226, z227, h228, z229, rfl, h224⟩ := h219
    have h230 := h224.2.2.2.2.2.2.2.2.2.2.2.2.2.2
    have h231 := Fr_trans h211 h223 (by decide +kernel)
    obtain ⟨S232, h233⟩ : ∃ q : PS, q = pss By Nb (iW By Nb 16 S214) S214 := ⟨_, rfl⟩
    have h234 : tN By Nb ((Int32.ofInt 1)).toInt ((Int32.ofInt 3)).toInt (pss By Nb (iW By Nb 16 S214) S214) = tN By Nb (1) (3) S232 := by rw [h233]; exact tN_cg2 (fun _ => by (first | exact q_0bfa10f27c (by decide) | omega)) (fun _ => by (first | exact q_5736040b52 this | omega))
    obtain ⟨S235, h236⟩ : ∃ q : PS, q = tN By Nb (1) (3) S232 := ⟨_, rfl⟩
    have h237 : ML By Nb σ221 S235 := by rw [h236]; exact (ML_eq h230.1 h234)
    have h238 := ML_k h237 h228
    have h239 : Imp (S235.1 = 0) (z229.toInt = tV By Nb S232.2.2.1) := fun z => by rw [h233]; exact h230.2 (by rw [h234, ← h236]; exact z)
    have h240 := Imp_m h224.2.2.2.2.2.2.2.2.2.2.1 (by (first | exact q_ad3eee31ca (by decide) | omega))
    have h241 := Imp_m h224.2.2.2.2.2.2.2.2.2.2.2.1 (by (first | exact q_8a7bb54a7c this | omega))
    refine En_iast (l := 0) (u := 3) rfl (by decide : (Int32.ofInt 1).toInt = 1) tgz_165 (by decide +kernel) (by decide) (lnI (by decide +kernel : LN _ = 226) (by decide)) (by decide +kernel) (rngI rfl (by first | exact q_ef1e8e38bf h224.1 | omega) (by (first | exact q_1dc19f2830 h241 this | omega))) h222 h231 (by decide +kernel) (fun σ242 h243 h244 h245 h246 => ?_)
    obtain ⟨S247, h248⟩ : ∃ q : PS, q = wst S235 (1) ((tV By Nb S232.2.2.1)) := ⟨_, rfl⟩
    have h249 : ML By Nb σ242 S247 := by rw [h248]; exact (ML_wst (i := 1) (v := (tV By Nb S232.2.2.1)) h237 h245 h246 (by (first | decide | omega)) (fun z => by have j1 := Imp_m h239 z; exact ⟨by (first | decide | omega), by (first | exact q_a8fb2024c1 j1 | omega)⟩))
    have h250 := ML_k h249 ((h246 _ _ (Or.inl (neTG tgz_159 tgz_165 (by decide)))).trans h228)
    have h251 : S247.1 = S235.1 := by rw [h248]; rfl
    refine En_Ps 1 (pc' := 51) (lv' := [(0, .ref 159)]) (st' := []) rfl ?_
    obtain ⟨z253, h252, h254, h255⟩ := WT_peekI h243 tgz_159 (by decide +kernel : FT 35 10 = (0, 0, 4)) (by decide +kernel)
    have h256 := ML_k h249 ((h246 _ _ (Or.inl (neTG tgz_159 tgz_165 (by decide)))).trans h228)
    have h257 : Imp (S247.1 = 0) (tK By Nb S247.2.2.1 = z253.toInt) := ML_t h249 h252
    refine En_Ps 1 (pc' := 52) (lv' := [(0, .ref 159)]) (st' := [.ref 159]) rfl ?_
    refine En_callV rfl rfl rfl rfl rfl rfl rfl rfl tgz_159 (by decide +kernel) rfl (c_237 σ242 h243 z227 ((h246 _ _ (Or.inl (neTG tgz_159 tgz_165 (by decide)))).trans h228)) (by decide) (by decide) (fun v259 σ260 h258 => ?_)
    obtain ⟨h261, h262, z264, rfl, h263⟩ := h258
    obtain rfl : σ242 = σ260 := Fr_nil h262
    refine En_iEq _ rfl rfl (fun h265 => ?_) (fun h265 => ?_)
    · refine En_Ps 1 (pc' := 72) (lv' := [(0, .ref 159)]) (st' := [.ref 159]) rfl ?_
      refine En_callV rfl rfl rfl rfl rfl rfl rfl rfl tgz_159 (by decide +kernel) rfl (c_237 σ242 h243 z227 ((h246 _ _ (Or.inl (neTG tgz_159 tgz_165 (by decide)))).trans h228)) (by decide) (by decide) (fun v267 σ268 h266 => ?_)
      obtain ⟨h269, h270, z272, rfl, h271⟩ := h266
      obtain rfl : σ242 = σ268 := Fr_nil h270
      refine En_iEq _ rfl rfl (fun h273 => ?_) (fun hx => by exfalso; have := Imp_m h175.2.2.2.2.2.2.2.1 (by (first | exact q_635f9319e6 h263.2.2.2 h265 h271.2.2.1 hx h271.1 | omega)); have := Imp_m h191.2.2.2.2.2.2.2.2.2.2.2.2.2.1 (by (first | exact q_468044b3db h271.2.2.1 hx h271.1 h224.2.2.2.2.2.2.2.1 | omega)); have := Imp_m h224.2.2.2.2.2.2.2.2.2.2.2.2.2.1 (by (first | exact q_59622b1fc0 h271.2.2.1 hx h271.1 | omega)); (first | exact q_cffee5c382 h263.2.2.2 h265 h271.2.2.1 hx h271.1 | omega))
      obtain ⟨S274, h275⟩ : ∃ q : PS, q = adv By Nb S247 := ⟨_, rfl⟩
      have h276 : ML By Nb σ242 S274 := by rw [h275]; exact (ML_eq h249 (adv_bad (by (first | exact q_fdf04f5fe0 h271.2.2.2 h273 h256 | omega))).symm)
      have h277 := ML_k h276 ((h246 _ _ (Or.inl (neTG tgz_159 tgz_165 (by decide)))).trans h228)
      have h278 : Imp (S274.1 = 0) (tK By Nb S274.2.2.1 = z253.toInt) := ML_t h276 h252
      refine En_Ps 1 (pc' := 83) (lv' := [(0, .ref 159)]) (st' := [.ref 159]) rfl ?_
      refine En_getK (j := 14) ((h246 _ _ (Or.inl (neTG tgz_159 tgz_165 (by decide)))).trans ((h223 _ _ (inW tgz_159 (by decide +kernel))).trans ((h213 _ _ (Or.inl (neTG tgz_159 tgz_165 (by decide)))).trans ((h190 _ _ (inW tgz_159 (by decide +kernel))).trans ((h174 _ _ (inW tgz_159 (by decide +kernel))).trans h3))))) rfl rfl rfl tgz_159 (by decide +kernel) ?_
      refine En_Ps 2 (pc' := 89) (lv' := [(0, .ref 159)]) (st' := [.int (((Int8.ofInt 7).toInt32)), .ref 165, .int (((Int8.ofInt 7).toInt32)), .ref 165]) rfl ?_
      refine En_ialdK ((h246 _ _ (Or.inr (by (first | decide | omega)))).trans ((h223 _ _ (inWa tgz_165 (by decide +kernel))).trans ((h213 _ _ (Or.inr (by (first | decide | omega)))).trans ((h190 _ _ (inWa tgz_165 (by decide +kernel))).trans ((h174 _ _ (inWa tgz_165 (by decide +kernel))).trans h_l))))) rfl (by decide : ((Int8.ofInt 7).toInt32).toInt = 7) tgz_165 (by decide +kernel) h243 (by decide) (lnI (by decide +kernel : LN _ = 226) (by decide)) ?_
      refine En_Ps 2 (pc' := 92) (lv' := [(0, .ref 159)]) (st' := [.int ((l + ((Int32.ofInt 1)))), .int (((Int8.ofInt 7).toInt32)), .ref 165]) rfl ?_
      refine En_top (addI rfl (by decide : (Int32.ofInt 1).toInt = 1) (by first | exact q_465ab79ac1 hl_l | omega) (by first | exact q_12b1326583 h6 | omega)) (fun z280 h281 => ?_)
      refine En_iast (l := 0) (u := 1600) rfl (by decide : ((Int8.ofInt 7).toInt32).toInt = 7) tgz_165 (by decide +kernel) (by decide) (lnI (by decide +kernel : LN _ = 226) (by decide)) (by decide +kernel) (rngI rfl (by first | exact q_35104ce9d3 h281 hl_l | omega) (by first | exact q_b14eb82b79 h281 h6 | omega)) h243 h244 (by decide +kernel) (fun σ282 h283 h284 h285 h286 => ?_)
      obtain ⟨S287, h288⟩ : ∃ q : PS, q = wst S274 (7) (Sp.2.2.2 7 + 1) := ⟨_, rfl⟩
      have h289 : ML By Nb σ282 S287 := by rw [h288]; exact (ML_wst (i := 7) (v := Sp.2.2.2 7 + 1) h276 h285 h286 (by (first | decide | omega)) (fun z => by have j1 := Imp_m h278 z; exact ⟨by (first | decide | omega), by (first | exact q_c264f2cea9 h281 h2 | omega)⟩))
      have h290 := ML_k h289 ((h286 _ _ (Or.inl (neTG tgz_159 tgz_165 (by decide)))).trans ((h246 _ _ (Or.inl (neTG tgz_159 tgz_165 (by decide)))).trans h228))
      have h291 : Imp (S287.1 = 0) (tK By Nb S287.2.2.1 = z253.toInt) := ML_t h289 ((h286 _ _ (Or.inl (neTG tgz_159 tgz_165 (by decide)))).trans h252)
      have h292 : S287.1 = S274.1 := by rw [h288]; rfl
      have h293 : ci σ282 165 6 = ci σ0 165 6 := by rw [ci_st h285 h286 (by (first | decide | omega)) 6 (by (first | decide | omega)), if_neg (by (first | decide | omega)), ci_st h245 h246 (by (first | decide | omega)) 6 (by (first | decide | omega)), if_neg (by (first | decide | omega)), ci_fr h223 tgz_165 (by decide +kernel) 6, ci_st h212 h213 (by (first | decide | omega)) 6 (by (first | decide | omega)), if_neg (by (first | decide | omega)), ci_fr h190 tgz_165 (by decide +kernel) 6, ci_fr h174 tgz_165 (by decide +kernel) 6]
      have h295 : ci σ282 165 7 = z280.toInt := by rw [ci_st h285 h286 (by (first | decide | omega)) 7 (by (first | decide | omega)), if_pos rfl]
      have h294 : ci σ282 165 1 = z229.toInt := by rw [ci_st h285 h286 (by (first | decide | omega)) 1 (by (first | decide | omega)), if_neg (by (first | decide | omega)), ci_st h245 h246 (by (first | decide | omega)) 1 (by (first | decide | omega)), if_pos rfl]
      have h296 := ci_at h_l (rfl : (7 : Int) = 7)
      exact En_ret (v := none) rfl rfl rfl ⟨h283, h284, z225, ((h286 _ _ (Or.inl (neTG tgz_159 tgz_165 (by decide)))).trans ((h246 _ _ (Or.inl (neTG tgz_159 tgz_165 (by decide)))).trans h226)), z253, ((h286 _ _ (Or.inl (neTG tgz_159 tgz_165 (by decide)))).trans h252), z227, ((h286 _ _ (Or.inl (neTG tgz_159 tgz_165 (by decide)))).trans ((h246 _ _ (Or.inl (neTG tgz_159 tgz_165 (by decide)))).trans h228)), z280, h285, rfl, ⟨by first | exact q_a3cfc6bb33 h224.2.2.2.2.1 h191.2.2.2.2.1 h175.2.2.1 hp0 hl_l | omega, by first | exact q_76190b61a3 h224.2.2.2.1 | omega, by first | exact q_06e02fd287 h175.2.2.1 h191.2.2.2.2.1 h224.2.2.2.2.1 | omega, by first | exact q_c803b490ef h254 | omega, by first | exact q_3919a0a4ce h255 | omega, by first | exact q_a555021d16 h224.2.2.2.2.2.1 | omega, by first | exact q_c733b715bf h224.2.2.2.2.2.2.1 | omega, by first | exact q_eeff886842 h281 hl_l | omega, by first | exact q_4f3726f57a h281 h6 | omega, by first | exact q_0f0670fdd6 h281 | omega, by first | exact q_9a409ce733 h281 | omega, by first | exact q_5ee31f9195 h175.2.2.1 h191.2.2.2.2.1 h224.2.2.2.2.1 | omega, fun _ => by have := Imp_m h175.2.2.2.2.2.2.2.1 (by omega); have := Imp_m h191.2.2.2.2.2.2.2.2.2.2.2.2.2.1 (by omega); have := Imp_m h224.2.2.2.2.2.2.2.2.2.2.2.2.2.1 (by omega); omega, by first | exact q_9a409ce733 h281 | omega, by first | exact q_0f0670fdd6 h281 | omega, ⟨fun k2 hk2 => ⟨h293.trans hI.1, fun hz => ⟨fun _ => by rw [h294]; (first | exact q_cc9918c2d9 h271.2.2.2 h273 hk2 hz | omega), fun z7 => (by (first | exact q_8bb5343f05 h271.2.2.2 h273 hk2 hz | omega))⟩⟩, ML_eq h289 (by subst h288; subst h275; subst h248; subst h236; subst h233; subst h215; subst h203; subst h200; subst h183; unfold gLine fFirst gL1; dsimp only; first | done | rfl | ((repeat' split) <;> first | rfl | (exfalso; omega) | ((try have i0 := Imp_m h291 (by omega)); (try have i1 := Imp_m h278 (by omega)); (try have i2 := Imp_m h257 (by omega)); (try have i3 := Imp_m h239 (by omega)); (try have i4 := Imp_m h206 (by omega)); (try have i5 := Imp_m h175.2.2.2.2.2.2.2.1 (by omega)); (try have i6 := Imp_m h191.2.2.2.2.2.2.2.2.2.1 (by omega)); (try have i7 := Imp_m h191.2.2.2.2.2.2.2.2.2.2.2.2.1 (by omega)); (try have i8 := Imp_m h191.2.2.2.2.2.2.2.2.2.2.2.2.2.1 (by omega)); (try have i9 := Imp_m h224.2.2.2.2.2.2.2.2.2.1 (by omega)); (try have i10 := Imp_m h224.2.2.2.2.2.2.2.2.2.2.2.2.1 (by omega)); (try have i11 := Imp_m h224.2.2.2.2.2.2.2.2.2.2.2.2.2.1 (by omega)); exfalso; omega)))⟩⟩⟩
    · have h297 := Imp_m h175.2.2.2.2.2.2.2.1 (by (first | exact q_8db751f7ce h191.2.2.2.2.2.2.2.1 h224.2.2.2.2.2.2.2.1 h263.2.2.1 h265 h263.1 | omega))
      have h298 := Imp_m h191.2.2.2.2.2.2.2.2.2.2.2.2.2.1 (by (first | exact q_468044b3db h263.2.2.1 h265 h263.1 h224.2.2.2.2.2.2.2.1 | omega))
      have h299 := Imp_m h224.2.2.2.2.2.2.2.2.2.2.2.2.2.1 (by (first | exact q_59622b1fc0 h263.2.2.1 h265 h263.1 | omega))
      try have h300 := Imp_m h257 (by (first | exact q_1d088e2de8 h256 h224.2.2.2.2.2.1 h263.2.2.1 h265 h263.1 | omega))
      try have h301 := Imp_m h239 (by (first | exact q_1d088e2de8 h238 h224.2.2.2.2.2.1 h263.2.2.1 h265 h263.1 | omega))
      try have h302 := Imp_m h206 (by (first | exact q_b85f3ebfbc h205 h191.2.2.2.2.2.1 h299.1 | omega))
      refine En_Ps 1 (pc' := 59) (lv' := [(0, .ref 159)]) (st' := [.ref 159]) rfl ?_
      refine En_getK (j := 10) h252 rfl rfl rfl tgz_159 (by decide +kernel) ?_
      refine En_Ps 1 (pc' := 63) (lv' := [(0, .ref 159)]) (st' := [.int ((Int32.ofInt 3)), .int z253]) rfl ?_
      refine En_icEq _ rfl (by decide : (Int32.ofInt 3).toInt = 3) rfl (fun h303 => ?_) (fun h303 => ?_)
      · refine En_Ps 1 (pc' := 72) (lv' := [(0, .ref 159)]) (st' := [.ref 159]) rfl ?_
        refine En_callV rfl rfl rfl rfl rfl rfl rfl rfl tgz_159 (by decide +kernel) rfl (c_237 σ242 h243 z227 ((h246 _ _ (Or.inl (neTG tgz_159 tgz_165 (by decide)))).trans h228)) (by decide) (by decide) (fun v305 σ306 h304 => ?_)
        obtain ⟨h307, h308, z310, rfl, h309⟩ := h304
        obtain rfl : σ242 = σ306 := Fr_nil h308
        refine En_iEq _ rfl rfl (fun hx => by exfalso; (first | exact q_d43525113b h263.2.2.1 h265 h263.1 h309.2.2.2 hx | omega)) (fun h311 => ?_)
        try have h312 := Imp_m h257 (by (first | exact q_1d088e2de8 h256 h224.2.2.2.2.2.1 h309.2.2.1 h311 h309.1 | omega))
        try have h313 := Imp_m h239 (by (first | exact q_1d088e2de8 h238 h224.2.2.2.2.2.1 h309.2.2.1 h311 h309.1 | omega))
        try have h314 := Imp_m h206 (by (first | exact q_b85f3ebfbc h205 h191.2.2.2.2.2.1 h299.1 | omega))
        refine En_Ps 1 (pc' := 79) (lv' := [(0, .ref 159)]) (st' := [.ref 159]) rfl ?_
        refine En_callV rfl rfl rfl rfl rfl rfl rfl rfl tgz_159 (by decide +kernel) rfl (c_189x σ242 h243 z225 ((h246 _ _ (Or.inl (neTG tgz_159 tgz_165 (by decide)))).trans h226) h249.1 (ML_at h249 (by (first | exact q_1d088e2de8 h256 h224.2.2.2.2.2.1 h309.2.2.1 h311 h309.1 | omega)) ((h246 _ _ (Or.inl (neTG tgz_159 tgz_165 (by decide)))).trans h226))) (by decide) (by decide) (fun v316 σ317 h315 => ?_)
        obtain ⟨h318, h319, z321, h322, z323, h324, rfl, h320⟩ := h315
        have h325 := h320.2.2.2.2.2.2.2
        have h326 := Fr_trans h244 h319 (by decide +kernel)
        obtain ⟨S327, h328⟩ : ∃ q : PS, q = adv By Nb S247 := ⟨_, rfl⟩
        have h329 : ML By Nb σ317 S327 := by rw [h328]; exact (ML_adv h249 (by (first | exact q_1d088e2de8 h256 h224.2.2.2.2.2.1 h309.2.2.1 h311 h309.1 | omega)) ((h246 _ _ (Or.inl (neTG tgz_159 tgz_165 (by decide)))).trans h226) h319 (by decide +kernel) h325.2)
        have h330 := ML_k h329 ((h319 _ _ (inW tgz_159 (by decide +kernel))).trans ((h246 _ _ (Or.inl (neTG tgz_159 tgz_165 (by decide)))).trans h228))
        have h331 : Imp (S327.1 = 0) (tK By Nb S327.2.2.1 = z323.toInt) := ML_t h329 h324
        have h332 : S327.2.2.2 = S247.2.2.2 := by rw [h328]; exact adv_w
        refine En_Ps 1 (pc' := 83) (lv' := [(0, .ref 159)]) (st' := [.ref 159]) rfl ?_
        refine En_getK (j := 14) ((h319 _ _ (inW tgz_159 (by decide +kernel))).trans ((h246 _ _ (Or.inl (neTG tgz_159 tgz_165 (by decide)))).trans ((h223 _ _ (inW tgz_159 (by decide +kernel))).trans ((h213 _ _ (Or.inl (neTG tgz_159 tgz_165 (by decide)))).trans ((h190 _ _ (inW tgz_159 (by decide +kernel))).trans ((h174 _ _ (inW tgz_159 (by decide +kernel))).trans h3)))))) rfl rfl rfl tgz_159 (by decide +kernel) ?_
        refine En_Ps 2 (pc' := 89) (lv' := [(0, .ref 159)]) (st' := [.int (((Int8.ofInt 7).toInt32)), .ref 165, .int (((Int8.ofInt 7).toInt32)), .ref 165]) rfl ?_
        refine En_ialdK ((h319 _ _ (inWa tgz_165 (by decide +kernel))).trans ((h246 _ _ (Or.inr (by (first | decide | omega)))).trans ((h223 _ _ (inWa tgz_165 (by decide +kernel))).trans ((h213 _ _ (Or.inr (by (first | decide | omega)))).trans ((h190 _ _ (inWa tgz_165 (by decide +kernel))).trans ((h174 _ _ (inWa tgz_165 (by decide +kernel))).trans h_l)))))) rfl (by decide : ((Int8.ofInt 7).toInt32).toInt = 7) tgz_165 (by decide +kernel) h318 (by decide) (lnI (by decide +kernel : LN _ = 226) (by decide)) ?_
        refine En_Ps 2 (pc' := 92) (lv' := [(0, .ref 159)]) (st' := [.int ((l + ((Int32.ofInt 1)))), .int (((Int8.ofInt 7).toInt32)), .ref 165]) rfl ?_
        refine En_top (addI rfl (by decide : (Int32.ofInt 1).toInt = 1) (by first | exact q_465ab79ac1 hl_l | omega) (by first | exact q_12b1326583 h6 | omega)) (fun z334 h335 => ?_)
        refine En_iast (l := 0) (u := 1600) rfl (by decide : ((Int8.ofInt 7).toInt32).toInt = 7) tgz_165 (by decide +kernel) (by decide) (lnI (by decide +kernel : LN _ = 226) (by decide)) (by decide +kernel) (rngI rfl (by first | exact q_35104ce9d3 h335 hl_l | omega) (by first | exact q_b14eb82b79 h335 h6 | omega)) h318 h326 (by decide +kernel) (fun σ336 h337 h338 h339 h340 => ?_)
        obtain ⟨S341, h342⟩ : ∃ q : PS, q = wst S327 (7) (Sp.2.2.2 7 + 1) := ⟨_, rfl⟩
        have h343 : ML By Nb σ336 S341 := by rw [h342]; exact (ML_wst (i := 7) (v := Sp.2.2.2 7 + 1) h329 h339 h340 (by (first | decide | omega)) (fun z => by have j1 := Imp_m h331 z; exact ⟨by (first | decide | omega), by (first | exact q_c264f2cea9 h335 h2 | omega)⟩))
        have h344 := ML_k h343 ((h340 _ _ (Or.inl (neTG tgz_159 tgz_165 (by decide)))).trans ((h319 _ _ (inW tgz_159 (by decide +kernel))).trans ((h246 _ _ (Or.inl (neTG tgz_159 tgz_165 (by decide)))).trans h228)))
        have h345 : Imp (S341.1 = 0) (tK By Nb S341.2.2.1 = z323.toInt) := ML_t h343 ((h340 _ _ (Or.inl (neTG tgz_159 tgz_165 (by decide)))).trans h324)
        have h346 : S341.1 = S327.1 := by rw [h342]; rfl
        have h347 : ci σ336 165 6 = ci σ0 165 6 := by rw [ci_st h339 h340 (by (first | decide | omega)) 6 (by (first | decide | omega)), if_neg (by (first | decide | omega)), ci_fr h319 tgz_165 (by decide +kernel) 6, ci_st h245 h246 (by (first | decide | omega)) 6 (by (first | decide | omega)), if_neg (by (first | decide | omega)), ci_fr h223 tgz_165 (by decide +kernel) 6, ci_st h212 h213 (by (first | decide | omega)) 6 (by (first | decide | omega)), if_neg (by (first | decide | omega)), ci_fr h190 tgz_165 (by decide +kernel) 6, ci_fr h174 tgz_165 (by decide +kernel) 6]
        have h349 : ci σ336 165 7 = z334.toInt := by rw [ci_st h339 h340 (by (first | decide | omega)) 7 (by (first | decide | omega)), if_pos rfl]
        have h348 : ci σ336 165 1 = z229.toInt := by rw [ci_st h339 h340 (by (first | decide | omega)) 1 (by (first | decide | omega)), if_neg (by (first | decide | omega)), ci_fr h319 tgz_165 (by decide +kernel) 1, ci_st h245 h246 (by (first | decide | omega)) 1 (by (first | decide | omega)), if_pos rfl]
        have h350 := ci_at h_l (rfl : (7 : Int) = 7)
        exact En_ret (v := none) rfl rfl rfl ⟨h337, h338, z321, ((h340 _ _ (Or.inl (neTG tgz_159 tgz_165 (by decide)))).trans h322), z323, ((h340 _ _ (Or.inl (neTG tgz_159 tgz_165 (by decide)))).trans h324), z227, ((h340 _ _ (Or.inl (neTG tgz_159 tgz_165 (by decide)))).trans ((h319 _ _ (inW tgz_159 (by decide +kernel))).trans ((h246 _ _ (Or.inl (neTG tgz_159 tgz_165 (by decide)))).trans h228))), z334, h339, rfl, ⟨by first | exact q_dbf9be8f58 h320.2.2.1 h224.2.2.2.2.1 h191.2.2.2.2.1 h175.2.2.1 hp0 hl_l | omega, by first | exact q_76190b61a3 h320.2.1 | omega, by first | exact q_d4bac2ac81 h175.2.2.1 h191.2.2.2.2.1 h224.2.2.2.2.1 h320.2.2.1 | omega, by first | exact q_a555021d16 h320.2.2.2.1 | omega, by first | exact q_05cffb065e h320.2.2.2.2.1 | omega, by first | exact q_a555021d16 h224.2.2.2.2.2.1 | omega, by first | exact q_c733b715bf h224.2.2.2.2.2.2.1 | omega, by first | exact q_eeff886842 h335 hl_l | omega, by first | exact q_4f3726f57a h335 h6 | omega, by first | exact q_0f0670fdd6 h335 | omega, by first | exact q_9a409ce733 h335 | omega, by first | exact q_e22842ad2a h175.2.2.1 h191.2.2.2.2.1 h224.2.2.2.2.1 h320.2.2.1 | omega, fun _ => by have := Imp_m h320.2.2.2.2.2.2.1 (by omega); (first | exact q_374465ecbc this h224.2.2.2.2.1 h191.2.2.2.2.1 h175.2.2.1 | omega), by first | exact q_9a409ce733 h335 | omega, by first | exact q_0f0670fdd6 h335 | omega, ⟨fun k2 hk2 => ⟨h347.trans hI.1, fun hz => ⟨fun _ => by rw [h348]; (first | exact q_e5f311ca53 h299.2.1 (by decide) | omega), fun z7 => (by (first | exact q_e47b6bce04 z7 h349 h335 h6 | omega))⟩⟩, ML_eq h343 (by subst h342; subst h328; subst h248; subst h236; subst h233; subst h215; subst h203; subst h200; subst h183; unfold gLine fFirst gL1; dsimp only; first | done | rfl | ((repeat' split) <;> first | rfl | (exfalso; omega) | ((try have i0 := Imp_m h345 (by omega)); (try have i1 := Imp_m h331 (by omega)); (try have i2 := Imp_m h257 (by omega)); (try have i3 := Imp_m h239 (by omega)); (try have i4 := Imp_m h206 (by omega)); (try have i5 := Imp_m h191.2.2.2.2.2.2.2.2.2.1 (by omega)); (try have i6 := Imp_m h191.2.2.2.2.2.2.2.2.2.2.2.2.1 (by omega)); (try have i7 := Imp_m h224.2.2.2.2.2.2.2.2.2.1 (by omega)); (try have i8 := Imp_m h224.2.2.2.2.2.2.2.2.2.2.2.2.1 (by omega)); (try have i9 := Imp_m h320.2.2.2.2.2.2.1 (by omega)); exfalso; omega)))⟩⟩⟩
      · refine En_Ps 2 (pc' := 68) (lv' := [(0, .ref 159)]) (st' := [.int ((Int32.ofInt 1)), .ref 159]) rfl ?_
        have := (by decide : ((Int32.ofInt 1)).toInt = 1)
        refine En_callV rfl rfl rfl rfl rfl rfl rfl rfl tgz_159 (by decide +kernel) rfl (c_223x σ242 h243 ((Int32.ofInt 1)) (geI (by decide : (Int32.ofInt 1).toInt = 1) (by decide)) (leI (by decide : (Int32.ofInt 1).toInt = 1) (by decide)) z227 ((h246 _ _ (Or.inl (neTG tgz_159 tgz_165 (by decide)))).trans h228) h249) (by decide) (by decide) (fun v352 σ353 h351 => ?_)
        obtain ⟨h354, h355, z357, h358, rfl, h356⟩ := h351
        have h359 := h356.2.2.2.2
        have h360 := Fr_trans h244 h355 (by decide +kernel)
        obtain ⟨S361, h362⟩ : ∃ q : PS, q = err By Nb 1 S247 := ⟨_, rfl⟩
        have h363 : ML By Nb σ353 S361 := by rw [h362]; exact (ML_eq h359 (err_cg (by (first | exact q_0bfa10f27c this | omega))))
        have h364 := ML_k h363 h358
        have h365 : Imp (S361.1 = 0) (tK By Nb S361.2.2.1 = z253.toInt) := ML_t h363 ((h355 _ _ (inW tgz_159 (by decide +kernel))).trans h252)
        have h366 : S361.2.2.2 = S247.2.2.2 := by rw [h362]; exact err_w
        refine En_Ps 1 (pc' := 72) (lv' := [(0, .ref 159)]) (st' := [.ref 159]) rfl ?_
        refine En_callV rfl rfl rfl rfl rfl rfl rfl rfl tgz_159 (by decide +kernel) rfl (c_237 σ353 h354 z357 h358) (by decide) (by decide) (fun v368 σ369 h367 => ?_)
        obtain ⟨h370, h371, z373, rfl, h372⟩ := h367
        obtain rfl : σ353 = σ369 := Fr_nil h371
        refine En_iEq _ rfl rfl (fun h374 => ?_) (fun hx => by exfalso; (first | exact q_ee856db709 h372.2.2.1 hx h372.1 h356.1 | omega))
        obtain ⟨S375, h376⟩ : ∃ q : PS, q = adv By Nb S361 := ⟨_, rfl⟩
        have h377 : ML By Nb σ353 S375 := by rw [h376]; exact (ML_eq h363 (adv_bad (by (first | exact q_27472ec939 h364 h356.1 | omega))).symm)
        have h378 := ML_k h377 h358
        have h379 : Imp (S375.1 = 0) (tK By Nb S375.2.2.1 = z253.toInt) := ML_t h377 ((h355 _ _ (inW tgz_159 (by decide +kernel))).trans h252)
        refine En_Ps 1 (pc' := 83) (lv' := [(0, .ref 159)]) (st' := [.ref 159]) rfl ?_
        refine En_getK (j := 14) ((h355 _ _ (inW tgz_159 (by decide +kernel))).trans ((h246 _ _ (Or.inl (neTG tgz_159 tgz_165 (by decide)))).trans ((h223 _ _ (inW tgz_159 (by decide +kernel))).trans ((h213 _ _ (Or.inl (neTG tgz_159 tgz_165 (by decide)))).trans ((h190 _ _ (inW tgz_159 (by decide +kernel))).trans ((h174 _ _ (inW tgz_159 (by decide +kernel))).trans h3)))))) rfl rfl rfl tgz_159 (by decide +kernel) ?_
        refine En_Ps 2 (pc' := 89) (lv' := [(0, .ref 159)]) (st' := [.int (((Int8.ofInt 7).toInt32)), .ref 165, .int (((Int8.ofInt 7).toInt32)), .ref 165]) rfl ?_
        refine En_ialdK ((h355 _ _ (inWa tgz_165 (by decide +kernel))).trans ((h246 _ _ (Or.inr (by (first | decide | omega)))).trans ((h223 _ _ (inWa tgz_165 (by decide +kernel))).trans ((h213 _ _ (Or.inr (by (first | decide | omega)))).trans ((h190 _ _ (inWa tgz_165 (by decide +kernel))).trans ((h174 _ _ (inWa tgz_165 (by decide +kernel))).trans h_l)))))) rfl (by decide : ((Int8.ofInt 7).toInt32).toInt = 7) tgz_165 (by decide +kernel) h354 (by decide) (lnI (by decide +kernel : LN _ = 226) (by decide)) ?_
        refine En_Ps 2 (pc' := 92) (lv' := [(0, .ref 159)]) (st' := [.int ((l + ((Int32.ofInt 1)))), .int (((Int8.ofInt 7).toInt32)), .ref 165]) rfl ?_
        refine En_top (addI rfl (by decide : (Int32.ofInt 1).toInt = 1) (by first | exact q_465ab79ac1 hl_l | omega) (by first | exact q_12b1326583 h6 | omega)) (fun z381 h382 => ?_)
        refine En_iast (l := 0) (u := 1600) rfl (by decide : ((Int8.ofInt 7).toInt32).toInt = 7) tgz_165 (by decide +kernel) (by decide) (lnI (by decide +kernel : LN _ = 226) (by decide)) (by decide +kernel) (rngI rfl (by first | exact q_35104ce9d3 h382 hl_l | omega) (by first | exact q_b14eb82b79 h382 h6 | omega)) h354 h360 (by decide +kernel) (fun σ383 h384 h385 h386 h387 => ?_)
        obtain ⟨S388, h389⟩ : ∃ q : PS, q = wst S375 (7) (Sp.2.2.2 7 + 1) := ⟨_, rfl⟩
        have h390 : ML By Nb σ383 S388 := by rw [h389]; exact (ML_wst (i := 7) (v := Sp.2.2.2 7 + 1) h377 h386 h387 (by (first | decide | omega)) (fun z => by have j1 := Imp_m h379 z; exact ⟨by (first | decide | omega), by (first | exact q_c264f2cea9 h382 h2 | omega)⟩))
        have h391 := ML_k h390 ((h387 _ _ (Or.inl (neTG tgz_159 tgz_165 (by decide)))).trans h358)
        have h392 : Imp (S388.1 = 0) (tK By Nb S388.2.2.1 = z253.toInt) := ML_t h390 ((h387 _ _ (Or.inl (neTG tgz_159 tgz_165 (by decide)))).trans ((h355 _ _ (inW tgz_159 (by decide +kernel))).trans h252))
        have h393 : S388.1 = S375.1 := by rw [h389]; rfl
        have h394 : ci σ383 165 6 = ci σ0 165 6 := by rw [ci_st h386 h387 (by (first | decide | omega)) 6 (by (first | decide | omega)), if_neg (by (first | decide | omega)), ci_fr h355 tgz_165 (by decide +kernel) 6, ci_st h245 h246 (by (first | decide | omega)) 6 (by (first | decide | omega)), if_neg (by (first | decide | omega)), ci_fr h223 tgz_165 (by decide +kernel) 6, ci_st h212 h213 (by (first | decide | omega)) 6 (by (first | decide | omega)), if_neg (by (first | decide | omega)), ci_fr h190 tgz_165 (by decide +kernel) 6, ci_fr h174 tgz_165 (by decide +kernel) 6]
        have h396 : ci σ383 165 7 = z381.toInt := by rw [ci_st h386 h387 (by (first | decide | omega)) 7 (by (first | decide | omega)), if_pos rfl]
        have h395 : ci σ383 165 1 = z229.toInt := by rw [ci_st h386 h387 (by (first | decide | omega)) 1 (by (first | decide | omega)), if_neg (by (first | decide | omega)), ci_fr h355 tgz_165 (by decide +kernel) 1, ci_st h245 h246 (by (first | decide | omega)) 1 (by (first | decide | omega)), if_pos rfl]
        have h397 := ci_at h_l (rfl : (7 : Int) = 7)
        exact En_ret (v := none) rfl rfl rfl ⟨h384, h385, z225, ((h387 _ _ (Or.inl (neTG tgz_159 tgz_165 (by decide)))).trans ((h355 _ _ (inW tgz_159 (by decide +kernel))).trans ((h246 _ _ (Or.inl (neTG tgz_159 tgz_165 (by decide)))).trans h226))), z253, ((h387 _ _ (Or.inl (neTG tgz_159 tgz_165 (by decide)))).trans ((h355 _ _ (inW tgz_159 (by decide +kernel))).trans h252)), z357, ((h387 _ _ (Or.inl (neTG tgz_159 tgz_165 (by decide)))).trans h358), z381, h386, rfl, ⟨by first | exact q_a3cfc6bb33 h224.2.2.2.2.1 h191.2.2.2.2.1 h175.2.2.1 hp0 hl_l | omega, by first | exact q_76190b61a3 h224.2.2.2.1 | omega, by first | exact q_06e02fd287 h175.2.2.1 h191.2.2.2.2.1 h224.2.2.2.2.1 | omega, by first | exact q_c803b490ef h254 | omega, by first | exact q_3919a0a4ce h255 | omega, by first | exact q_1a6ee862c1 h356.1 | omega, by first | exact q_c733b715bf h356.2.1 | omega, by first | exact q_eeff886842 h382 hl_l | omega, by first | exact q_4f3726f57a h382 h6 | omega, by first | exact q_0f0670fdd6 h382 | omega, by first | exact q_9a409ce733 h382 | omega, by first | exact q_5ee31f9195 h175.2.2.1 h191.2.2.2.2.1 h224.2.2.2.2.1 | omega, fun _ => by omega, by first | exact q_9a409ce733 h382 | omega, by first | exact q_0f0670fdd6 h382 | omega, ⟨fun k2 hk2 => ⟨h394.trans hI.1, fun hz => ⟨fun _ => by rw [h395]; (first | exact q_e5f311ca53 h299.2.1 this | omega), fun z7 => (by (first | exact q_8bb5343f05 h372.2.2.2 h374 hk2 hz | omega))⟩⟩, ML_eq h390 (by subst h389; subst h376; subst h362; subst h248; subst h236; subst h233; subst h215; subst h203; subst h200; subst h183; unfold gLine fFirst gL1; dsimp only; first | done | rfl | ((repeat' split) <;> first | rfl | (exfalso; omega) | ((try have i0 := Imp_m h392 (by omega)); (try have i1 := Imp_m h379 (by omega)); (try have i2 := Imp_m h365 (by omega)); (try have i3 := Imp_m h257 (by omega)); (try have i4 := Imp_m h239 (by omega)); (try have i5 := Imp_m h206 (by omega)); (try have i6 := Imp_m h191.2.2.2.2.2.2.2.2.2.1 (by omega)); (try have i7 := Imp_m h191.2.2.2.2.2.2.2.2.2.2.2.2.1 (by omega)); (try have i8 := Imp_m h224.2.2.2.2.2.2.2.2.2.1 (by omega)); (try have i9 := Imp_m h224.2.2.2.2.2.2.2.2.2.2.2.2.1 (by omega)); exfalso; omega)))⟩⟩⟩
/-- DoorSchoolModel.row(III)I -/
abbrev P_308x (σ0 : SG) (a : Int32) (b : Int32) (c : Int32) : PO := fun v σ => WT σ ∧ Fr [(53, 0), (54, 0), (55, 0)] σ0 σ ∧ ∃ ret : Int32, v = some (Value.int ret) ∧ -ret.toInt - 3 ≤ 0 ∧ ret.toInt ≤ 0 ∧ Imp (-a.toInt ≤ 0 ∧ a.toInt - 3 ≤ 0 ∧ -b.toInt ≤ 0 ∧ b.toInt - 3 ≤ 0 ∧ c.toInt - 60 ≤ 0 ∧ -c.toInt ≤ 0) (ret.toInt ≤ 0 ∧ -ret.toInt ≤ 0) ∧ Imp (-a.toInt ≤ 0 ∧ a.toInt - 3 ≤ 0 ∧ -b.toInt ≤ 0 ∧ b.toInt - 3 ≤ 0 ∧ c.toInt - 60 ≤ 0 ∧ c.toInt + 1 ≤ 0) (ret.toInt + 3 ≤ 0 ∧ -ret.toInt - 3 ≤ 0) ∧ Imp (a.toInt + 1 ≤ 0) (ret.toInt + 2 ≤ 0 ∧ -ret.toInt - 2 ≤ 0) ∧ Imp (-a.toInt + 4 ≤ 0) (ret.toInt + 2 ≤ 0 ∧ -ret.toInt - 2 ≤ 0) ∧ Imp (b.toInt + 1 ≤ 0) (ret.toInt + 2 ≤ 0 ∧ -ret.toInt - 2 ≤ 0) ∧ Imp (-b.toInt + 4 ≤ 0) (ret.toInt + 2 ≤ 0 ∧ -ret.toInt - 2 ≤ 0) ∧ Imp (-c.toInt + 61 ≤ 0) (ret.toInt + 2 ≤ 0 ∧ -ret.toInt - 2 ≤ 0)
set_option maxRecDepth 10000 in
set_option maxHeartbeats 4000000 in
theorem c_308x (σ0 : SG) (hσ0 : WT σ0) (a : Int32) (b : Int32) (c : Int32) : En 2 45 none mr_308 (P_308x σ0 a b c) 0 [(0, .ref 159), (1, .int a), (2, .int b), (3, .int c)] [] σ0 := by
  have hF0 : Fr [(53, 0), (54, 0), (55, 0)] σ0 σ0 := Fr_rfl
  refine En_Ps 1 (pc' := 1) (lv' := [(0, .ref 159), (1, .int a), (2, .int b), (3, .int c)]) (st' := [.int a]) rfl ?_
  refine En_callS rfl rfl rfl rfl rfl rfl rfl rfl rfl (c_266 σ0 hσ0 a) (by decide) (by decide) (fun v2 σ3 h1 => ?_)
  obtain ⟨h4, h5, z7, rfl, h6⟩ := h1
  have h8 := Fr_trans hF0 h5 (by decide +kernel)
  refine En_iEq _ rfl rfl (fun h9 => ?_) (fun h9 => ?_)
  · refine En_Ps 1 (pc' := 27) (lv' := [(0, .ref 159), (1, .int a), (2, .int b), (3, .int c)]) (st' := [.int (((Int8.ofInt (-2)).toInt32))]) rfl ?_
    refine En_top (by decide : ((Int8.ofInt (-2)).toInt32).toInt = -2) (fun z10 h11 => ?_)
    exact En_ret (v := some (Value.int z10)) rfl rfl rfl ⟨h4, h8, z10, rfl, ⟨by first | exact q_65b477db59 h11 | omega, by first | exact q_bbb39ffa1e h11 | omega, fun _ => by omega, fun _ => by omega, fun hh => by first | exact ⟨q_535bc65891 h11, q_f35c5d346c h11⟩ | omega, fun hh => by first | exact ⟨q_535bc65891 h11, q_f35c5d346c h11⟩ | omega, fun hh => by first | exact ⟨q_535bc65891 h11, q_f35c5d346c h11⟩ | omega, fun hh => by first | exact ⟨q_535bc65891 h11, q_f35c5d346c h11⟩ | omega, fun hh => by first | exact ⟨q_535bc65891 h11, q_f35c5d346c h11⟩ | omega⟩⟩
  · refine En_Ps 4 (pc' := 13) (lv' := [(0, .ref 159), (1, .int a), (2, .int b), (3, .int c)]) (st' := [.long ((3 : Int64)), .long ((Int64.ofNat 0)), .long b.toInt64]) rfl ?_
    have : b.toInt64.toInt = b.toInt := (i2lI rfl)
    have := (by decide : ((Int64.ofNat 0)).toInt = 0)
    have := (by decide : ((3 : Int64)).toInt = 3)
    refine En_callS rfl rfl rfl rfl rfl rfl rfl rfl rfl (c_249 σ3 h4 b.toInt64 ((Int64.ofNat 0)) ((3 : Int64))) (by decide) (by decide) (fun v13 σ14 h12 => ?_)
    obtain ⟨h15, h16, z18, rfl, h17⟩ := h12
    have h19 := Fr_trans h8 h16 (by decide +kernel)
    refine En_iEq _ rfl rfl (fun h20 => ?_) (fun h20 => ?_)
    · refine En_Ps 1 (pc' := 27) (lv' := [(0, .ref 159), (1, .int a), (2, .int b), (3, .int c)]) (st' := [.int (((Int8.ofInt (-2)).toInt32))]) rfl ?_
      refine En_top (by decide : ((Int8.ofInt (-2)).toInt32).toInt = -2) (fun z21 h22 => ?_)
      exact En_ret (v := some (Value.int z21)) rfl rfl rfl ⟨h15, h19, z21, rfl, ⟨by first | exact q_65b477db59 h22 | omega, by first | exact q_bbb39ffa1e h22 | omega, fun _ => by omega, fun _ => by omega, fun hh => by first | exact ⟨q_535bc65891 h22, q_f35c5d346c h22⟩ | omega, fun hh => by first | exact ⟨q_535bc65891 h22, q_f35c5d346c h22⟩ | omega, fun hh => by first | exact ⟨q_535bc65891 h22, q_f35c5d346c h22⟩ | omega, fun hh => by first | exact ⟨q_535bc65891 h22, q_f35c5d346c h22⟩ | omega, fun hh => by first | exact ⟨q_535bc65891 h22, q_f35c5d346c h22⟩ | omega⟩⟩
    · refine En_Ps 2 (pc' := 22) (lv' := [(0, .ref 159), (1, .int a), (2, .int b), (3, .int c)]) (st' := [.int (((Int8.ofInt 60).toInt32)), .int c]) rfl ?_
      refine En_icLe _ rfl (by decide : ((Int8.ofInt 60).toInt32).toInt = 60) rfl (fun h23 => ?_) (fun h23 => ?_)
      · refine En_Ps 1 (pc' := 29) (lv' := [(0, .ref 159), (1, .int a), (2, .int b), (3, .int c)]) (st' := [.int c]) rfl ?_
        refine En_iGe _ rfl rfl (fun h24 => ?_) (fun h24 => ?_)
        · refine En_Ps 1 (pc' := 36) (lv' := [(0, .ref 159), (1, .int a), (2, .int b), (3, .int c)]) (st' := [.ref 159]) rfl ?_
          refine En_getU (j := 32) (u := 177) (g' := 53) (q := 0) rfl rfl rfl tgz_159 (by decide +kernel) h15 (by decide +kernel) un_53_177 (fun h25 => ?_)
          refine En_Ps 2 (pc' := 41) (lv' := [(0, .ref 159), (1, .int a), (2, .int b), (3, .int c)]) (st' := [.int c, .int a, .ref 177]) rfl ?_
          refine En_iast (l := (-1)) (u := 60) rfl rfl tgz_177 (by decide +kernel) (by (first | exact q_32028d2b65 h6.2.2.1 h6.2.1 h9 h6.1 | omega)) (lnI (by decide +kernel : LN _ = 4) (by (first | exact q_87da96c949 h6.2.2.1 h6.2.1 h9 h6.1 | omega))) (FTsgl (by decide +kernel)) (rngI rfl (by first | exact q_5b439548fc h24 | omega) (by first | exact q_d3912a5755 h23 | omega)) h15 h19 (by decide +kernel) (fun σ27 h28 h29 h30 h31 => ?_)
          refine En_Ps 1 (pc' := 43) (lv' := [(0, .ref 159), (1, .int a), (2, .int b), (3, .int c)]) (st' := [.ref 159]) rfl ?_
          refine En_getU (j := 33) (u := 178) (g' := 54) (q := 0) rfl rfl rfl tgz_159 (by decide +kernel) h28 (by decide +kernel) un_54_178 (fun h32 => ?_)
          refine En_Ps 2 (pc' := 48) (lv' := [(0, .ref 159), (1, .int a), (2, .int b), (3, .int c)]) (st' := [.int b, .int a, .ref 178]) rfl ?_
          refine En_iast (l := 0) (u := 3) rfl rfl tgz_178 (by decide +kernel) (by (first | exact q_32028d2b65 h6.2.2.1 h6.2.1 h9 h6.1 | omega)) (lnI (by decide +kernel : LN _ = 4) (by (first | exact q_87da96c949 h6.2.2.1 h6.2.1 h9 h6.1 | omega))) (FTsgl (by decide +kernel)) (rngI rfl (by (first | exact q_bf5288a390 (i2lI rfl) h17.2.2.1 h20 h17.1 (by decide) | omega)) (by (first | exact q_8130a48c79 (i2lI rfl) h17.2.2.1 h20 h17.1 this | omega))) h28 h29 (by decide +kernel) (fun σ34 h35 h36 h37 h38 => ?_)
          refine En_Ps 2 (pc' := 52) (lv' := [(4, .int ((Int32.ofInt 0))), (0, .ref 159), (1, .int a), (2, .int b), (3, .int c)]) (st' := []) rfl ?_
          have key52 : ∀ (n52 : Nat) (σ40 : SG) (y39 : Int32), WT σ40 → Fr [(53, 0), (54, 0), (55, 0)] σ0 σ40 → (σ40 159)[32]? = some (Value.ref 177) → (σ40 159)[33]? = some (Value.ref 178) → 0 ≤ y39.toInt → y39.toInt ≤ 60 → -y39.toInt + 60 < (n52 : Int) → En 2 45 none mr_308 (P_308x σ0 a b c) 52 [(0, .ref 159), (1, .int a), (2, .int b), (3, .int c), (4, .int y39)] [] σ40 := by
            intro n52
            induction n52 with
            | zero =>
              intro σ40 y39 h41 h42 h43 h44 h45 h46 h47
              first | exact (q_98ae87e5bf h47 h46).elim | (exfalso; omega)
            | succ n52 ih52 =>
              intro σ40 y39 h41 h42 h43 h44 h45 h46 h47
              refine En_Ps 2 (pc' := 56) (lv' := [(0, .ref 159), (1, .int a), (2, .int b), (3, .int c), (4, .int y39)]) (st' := [.int (((Int8.ofInt 60).toInt32)), .int y39]) rfl ?_
              refine En_icGe _ rfl (by decide : ((Int8.ofInt 60).toInt32).toInt = 60) rfl (fun h48 => ?_) (fun h48 => ?_)
              · refine En_Ps 1 (pc' := 79) (lv' := [(0, .ref 159), (1, .int a), (2, .int b), (3, .int c), (4, .int y39)]) (st' := [.int ((Int32.ofInt 0))]) rfl ?_
                refine En_top (by decide : (Int32.ofInt 0).toInt = 0) (fun z49 h50 => ?_)
                exact En_ret (v := some (Value.int z49)) rfl rfl rfl ⟨h41, h42, z49, rfl, ⟨by first | exact q_fe9485f41f h50 | omega, by first | exact q_c5d285f1b9 h50 | omega, fun hh => by first | exact ⟨q_c5d285f1b9 h50, q_097a37c2ae h50⟩ | omega, fun _ => by omega, fun _ => by omega, fun _ => by omega, fun _ => by omega, fun _ => by omega, fun _ => by omega⟩⟩
              · refine En_Ps 1 (pc' := 60) (lv' := [(0, .ref 159), (1, .int a), (2, .int b), (3, .int c), (4, .int y39)]) (st' := [.ref 159]) rfl ?_
                refine En_getU (j := 34) (u := 179) (g' := 55) (q := 0) rfl rfl rfl tgz_159 (by decide +kernel) h41 (by decide +kernel) un_55_179 (fun h51 => ?_)
                refine En_Ps 3 (pc' := 67) (lv' := [(0, .ref 159), (1, .int a), (2, .int b), (3, .int c), (4, .int y39)]) (st' := [.int (((((Int8.ofInt 60).toInt32)) * a)), .ref 179]) rfl ?_
                refine En_top (mulI (by decide : ((Int8.ofInt 60).toInt32).toInt = 60) rfl (Z := 60 * a.toInt) (by first | exact q_7a16b37b72 | omega) (by (first | exact q_3037e6bb8b h6.2.2.1 h6.2.1 h9 h6.1 | omega)) (by (first | exact q_71b3dc49ab h6.2.2.1 h6.2.1 h9 h6.1 | omega))) (fun z53 h54 => ?_)
                refine En_Ps 2 (pc' := 70) (lv' := [(0, .ref 159), (1, .int a), (2, .int b), (3, .int c), (4, .int y39)]) (st' := [.int ((z53 + y39)), .ref 179]) rfl ?_
                refine En_top (addI rfl rfl (by (first | exact q_a027853e4b h54 h45 h6.2.2.1 h6.2.1 h9 h6.1 | omega)) (by (first | exact q_2a8cb33312 h54 h48 h6.2.2.1 h6.2.1 h9 h6.1 | omega))) (fun z55 h56 => ?_)
                refine En_Ps 1 (pc' := 71) (lv' := [(0, .ref 159), (1, .int a), (2, .int b), (3, .int c), (4, .int y39)]) (st' := [.long ((Int64.ofNat 0)), .int z55, .ref 179]) rfl ?_
                refine En_last (l := (-9223372036854775808)) (u := 9223372036854775807) rfl rfl tgz_179 (by decide +kernel) (by (first | exact q_d744c92080 h56 h54 h45 h6.2.2.1 h6.2.1 h9 h6.1 | omega)) (lnI (by decide +kernel : LN _ = 240) (by (first | exact q_d0bb30fefb h56 h54 h48 h6.2.2.1 h6.2.1 h9 h6.1 | omega))) (FTsgl (by decide +kernel)) (fullL _) h41 h42 (by decide +kernel) (fun σ57 h58 h59 h60 h61 => ?_)
                refine En_Ps 1 (pc' := 75) (lv' := [(4, .int ((y39 + Int32.ofInt 1))), (0, .ref 159), (1, .int a), (2, .int b), (3, .int c)]) (st' := []) rfl ?_
                refine En_lv1 (addI rfl (by decide : (Int32.ofInt 1).toInt = 1) (by first | exact q_465ab79ac1 h45 | omega) (by first | exact q_5aee3ad0d6 h48 | omega)) (fun z62 h63 => ?_)
                refine En_Ps 1 (pc' := 52) (lv' := [(4, .int z62), (0, .ref 159), (1, .int a), (2, .int b), (3, .int c)]) (st' := []) rfl ?_
                refine En_lv (lv := [(0, .ref 159), (1, .int a), (2, .int b), (3, .int c), (4, .int z62)]) ⟨rfl, rfl, rfl, rfl, rfl, trivial⟩ ?_
                exact ih52 σ57 z62 h58 h59 ((h61 _ _ (Or.inl (neTG tgz_159 tgz_179 (by decide)))).trans h43) ((h61 _ _ (Or.inl (neTG tgz_159 tgz_179 (by decide)))).trans h44) (by first | exact q_35104ce9d3 h63 h45 | omega) (by first | exact q_7e37767ea5 h63 h48 | omega) (by first | exact q_45947d8f83 h63 h47 | omega)
          have := (by decide : (Int32.ofInt 0).toInt = 0)
          refine En_lv (lv := [(0, .ref 159), (1, .int a), (2, .int b), (3, .int c), (4, .int ((Int32.ofInt 0)))]) ⟨rfl, rfl, rfl, rfl, rfl, trivial⟩ ?_
          exact key52 (Int.toNat (60) + 1) σ34 ((Int32.ofInt 0)) h35 h36 ((h38 _ _ (Or.inl (neTG tgz_159 tgz_178 (by decide)))).trans ((h31 _ _ (Or.inl (neTG tgz_159 tgz_177 (by decide)))).trans h25)) ((h38 _ _ (Or.inl (neTG tgz_159 tgz_178 (by decide)))).trans h32) (by decide) (by decide) (by first | exact toN_lt _ | omega)
        · refine En_Ps 1 (pc' := 34) (lv' := [(0, .ref 159), (1, .int a), (2, .int b), (3, .int c)]) (st' := [.int (((Int8.ofInt (-3)).toInt32))]) rfl ?_
          refine En_top (by decide : ((Int8.ofInt (-3)).toInt32).toInt = -3) (fun z64 h65 => ?_)
          exact En_ret (v := some (Value.int z64)) rfl rfl rfl ⟨h15, h19, z64, rfl, ⟨by first | exact q_3ed35d91e6 h65 | omega, by first | exact q_16f03d2a2f h65 | omega, fun _ => by omega, fun hh => by first | exact ⟨q_3a751255ef h65, q_3ed35d91e6 h65⟩ | omega, fun _ => by omega, fun _ => by omega, fun _ => by omega, fun _ => by omega, fun _ => by omega⟩⟩
      · refine En_Ps 1 (pc' := 27) (lv' := [(0, .ref 159), (1, .int a), (2, .int b), (3, .int c)]) (st' := [.int (((Int8.ofInt (-2)).toInt32))]) rfl ?_
        refine En_top (by decide : ((Int8.ofInt (-2)).toInt32).toInt = -2) (fun z66 h67 => ?_)
        exact En_ret (v := some (Value.int z66)) rfl rfl rfl ⟨h15, h19, z66, rfl, ⟨by first | exact q_65b477db59 h67 | omega, by first | exact q_bbb39ffa1e h67 | omega, fun _ => by omega, fun _ => by omega, fun hh => by first | exact ⟨q_535bc65891 h67, q_f35c5d346c h67⟩ | omega, fun hh => by first | exact ⟨q_535bc65891 h67, q_f35c5d346c h67⟩ | omega, fun hh => by first | exact ⟨q_535bc65891 h67, q_f35c5d346c h67⟩ | omega, fun hh => by first | exact ⟨q_535bc65891 h67, q_f35c5d346c h67⟩ | omega, fun hh => by first | exact ⟨q_535bc65891 h67, q_f35c5d346c h67⟩ | omega⟩⟩
/-- DoorSchoolModel.school()I -/
abbrev P_312x (σ0 : SG) (By : Int → Int) (Nb : Int) : PO := fun v σ => WT σ ∧ Fr [(35, 5), (35, 7), (35, 8), (35, 9), (35, 10), (35, 11), (35, 12), (35, 13), (36, 0), (41, 0)] σ0 σ ∧ ∃ m1 : Int32, (σ 159)[5]? = some (Value.int m1) ∧ ∃ ret : Int32, v = some (Value.int ret) ∧ -ret.toInt - 4 ≤ 0 ∧ ret.toInt - 1600 ≤ 0 ∧ -m1.toInt ≤ 0 ∧ m1.toInt ≤ 0 ∧ m1.toInt ≤ 0 ∧ -m1.toInt ≤ 0 ∧ ((WI σ ∧ MSC By Nb σ0 σ ret.toInt) ∧ ((fRead By Nb 1601 S00).1 = 0 → TW6 (fRead By Nb 1601 S00).2.2.2))
set_option maxRecDepth 10000 in
set_option maxHeartbeats 4000000 in
theorem c_312x {By : Int → Int} {Nb : Int} (σ0 : SG) (hσ0 : WT σ0) (hI : WI σ0) (hB : TBm By Nb σ0) : En 11 243 none mr_312 (P_312x σ0 By Nb) 0 [(0, .ref 159)] [] σ0 := by
  have hF0 : Fr [(35, 5), (35, 7), (35, 8), (35, 9), (35, 10), (35, 11), (35, 12), (35, 13), (36, 0), (41, 0)] σ0 σ0 := Fr_rfl
  refine En_Ps 2 (pc' := 2) (lv' := [(0, .ref 159)]) (st' := [.ref 159, .ref 159]) rfl ?_
  refine En_getI (j := 5) (l := 0) (u := 1600) rfl rfl rfl tgz_159 (by decide +kernel) hσ0 (by decide +kernel) (fun z2 h1 h3 h4 => ?_)
  refine En_put (j := 7) rfl rfl rfl tgz_159 (by decide +kernel) rfl (vI (l := 0) (u := 1600) (by decide +kernel) rfl (by first | exact q_58e6e51dcc h3 | omega) (by first | exact q_246f9048f8 h4 | omega)) hσ0 hF0 (by decide +kernel) (fun σ5 h6 h7 h8 h9 => ?_)
  have h10 : SWd σ0 σ5 := SWd_tr (fun _ => rfl : SWd σ0 σ0) (fun i => ci_ne h9 (by decide) i)
  refine En_Ps 2 (pc' := 10) (lv' := [(0, .ref 159)]) (st' := [.int ((Int32.ofInt 0)), .ref 159]) rfl ?_
  refine En_put (j := 5) rfl rfl rfl tgz_159 (by decide +kernel) rfl (vI (l := 0) (u := 1600) (by decide +kernel) (by decide : (Int32.ofInt 0).toInt = 0) (by decide) (by decide)) h6 h7 (by decide +kernel) (fun σ11 h12 h13 h14 h15 => ?_)
  have h16 : SWd σ0 σ11 := SWd_tr h10 (fun i => ci_ne h15 (by decide) i)
  refine En_Ps 2 (pc' := 15) (lv' := [(0, .ref 159)]) (st' := [.int ((Int32.ofInt 0)), .ref 159]) rfl ?_
  refine En_put (j := 8) rfl rfl rfl tgz_159 (by decide +kernel) rfl (vI (l := 0) (u := 1600) (by decide +kernel) (by decide : (Int32.ofInt 0).toInt = 0) (by decide) (by decide)) h12 h13 (by decide +kernel) (fun σ17 h18 h19 h20 h21 => ?_)
  have h22 : SWd σ0 σ17 := SWd_tr h16 (fun i => ci_ne h21 (by decide) i)
  refine En_Ps 2 (pc' := 20) (lv' := [(0, .ref 159)]) (st' := [.int ((Int32.ofInt 0)), .ref 159]) rfl ?_
  refine En_put (j := 12) rfl rfl rfl tgz_159 (by decide +kernel) rfl (vI (l := 0) (u := 3) (by decide +kernel) (by decide : (Int32.ofInt 0).toInt = 0) (by decide) (by decide)) h18 h19 (by decide +kernel) (fun σ23 h24 h25 h26 h27 => ?_)
  have h28 : SWd σ0 σ23 := SWd_tr h22 (fun i => ci_ne h27 (by decide) i)
  refine En_Ps 2 (pc' := 25) (lv' := [(0, .ref 159)]) (st' := [.int ((Int32.ofInt (-1))), .ref 159]) rfl ?_
  refine En_put (j := 13) rfl rfl rfl tgz_159 (by decide +kernel) rfl (vI (l := (-1)) (u := 1600) (by decide +kernel) (by decide : (Int32.ofInt (-1)).toInt = -1) (by decide) (by decide)) h24 h25 (by decide +kernel) (fun σ29 h30 h31 h32 h33 => ?_)
  have h34 : SWd σ0 σ29 := SWd_tr h28 (fun i => ci_ne h33 (by decide) i)
  refine En_Ps 2 (pc' := 30) (lv' := [(1, .int ((Int32.ofInt 0))), (0, .ref 159)]) (st' := []) rfl ?_
  have key30 : ∀ (n30 : Nat) (σ36 : SG) (y35 : Int32), WT σ36 → Fr [(35, 5), (35, 7), (35, 8), (35, 9), (35, 10), (35, 11), (35, 12), (35, 13), (36, 0), (41, 0)] σ0 σ36 → (σ36 159)[7]? = some (Value.int z2) → (σ36 159)[5]? = some (Value.int ((Int32.ofInt 0))) → (σ36 159)[8]? = some (Value.int ((Int32.ofInt 0))) → (σ36 159)[12]? = some (Value.int ((Int32.ofInt 0))) → (σ36 159)[13]? = some (Value.int ((Int32.ofInt (-1)))) → 0 ≤ y35.toInt → y35.toInt ≤ 226 → -y35.toInt + 226 < (n30 : Int) → CLF σ36 y35.toInt → SWd σ0 σ36 → En 11 243 none mr_312 (P_312x σ0 By Nb) 30 [(0, .ref 159), (1, .int y35)] [] σ36 := by
    intro n30
    induction n30 with
    | zero =>
      intro σ36 y35 h37 h38 h39 h40 h41 h42 h43 h44 h45 h46 h47 h48
      first | exact (q_93df7d31ea h46 h45).elim | (exfalso; omega)
    | succ n30 ih30 =>
      intro σ36 y35 h37 h38 h39 h40 h41 h42 h43 h44 h45 h46 h47 h48
      refine En_Ps 2 (pc' := 34) (lv' := [(0, .ref 159), (1, .int y35)]) (st' := [.int (((Int16.ofInt 226).toInt32)), .int y35]) rfl ?_
      refine En_icGe _ rfl (by decide : ((Int16.ofInt 226).toInt32).toInt = 226) rfl (fun h49 => ?_) (fun h49 => ?_)
      · have h50 := TPm_of hB h38 (by decide +kernel) h1 h39
        refine En_Ps 1 (pc' := 51) (lv' := [(0, .ref 159), (1, .int y35)]) (st' := [.ref 159]) rfl ?_
        refine En_callV rfl rfl rfl rfl rfl rfl rfl rfl tgz_159 (by decide +kernel) rfl (c_189x σ36 h37 ((Int32.ofInt 0)) h41 h50 (by have := (by decide : (Int32.ofInt 0).toInt = 0); have := hB.1; (first | exact q_cd53164edb this (by decide) | omega))) (by decide) (by decide) (fun v52 σ53 h51 => ?_)
        obtain ⟨h54, h55, z57, h58, z59, h60, rfl, h56⟩ := h51
        have h61 := h56.2.2.2.2.2.2.2
        have h62 := Fr_trans h38 h55 (by decide +kernel)
        have h63 := Imp_m h56.2.2.2.2.2.2.1
        have h64 : SWd σ0 σ53 := SWd_tr h48 (SWd_fr h55 (by decide +kernel))
        have key54 : ∀ (n54 : Nat) (σ84 : SG) (y65 : Int32) (y66 : Int32) (y67 : Int32), WT σ84 → Fr [(35, 5), (35, 7), (35, 8), (35, 9), (35, 10), (35, 11), (35, 12), (35, 13), (36, 0), (41, 0)] σ0 σ84 → (σ84 159)[7]? = some (Value.int z2) → (σ84 159)[5]? = some (Value.int ((Int32.ofInt 0))) → (σ84 159)[12]? = some (Value.int y65) → (σ84 159)[8]? = some (Value.int y66) → (σ84 159)[10]? = some (Value.int y67) → 0 ≤ y65.toInt → y65.toInt ≤ 3 → 0 ≤ y66.toInt → y66.toInt ≤ 1600 → 0 ≤ y67.toInt → y67.toInt ≤ 4 → 5 * (1600 - y66.toInt) + y67.toInt + 9000 * (3 - y65.toInt) < (n54 : Int) → FI σ84 y65.toInt → (y65.toInt = 0 → y67.toInt ≠ 0 → ci σ84 165 7 + 1 ≤ y66.toInt) → SWd σ0 σ84 → LPJ By Nb σ84 → En 11 243 none mr_312 (P_312x σ0 By Nb) 54 [(0, .ref 159), (1, .int y35)] [] σ84 := by
          intro n54
          induction n54 with
          | zero =>
            intro σ84 y65 y66 y67 h85 h86 h87 h88 h89 h90 h91 h92 h93 h94 h95 h96 h97 h98 h99 h100 h101 h102
            obtain ⟨S103, f104, h105, h106, h107, h110⟩ := h102
            have h108 := ML_k h105 h89
            have h109 := ML_t h105 h91
            exfalso; (first | exact q_368a1ef7c0 h98 h96 h95 h93 | omega)
          | succ n54 ih54 =>
            intro σ84 y65 y66 y67 h85 h86 h87 h88 h89 h90 h91 h92 h93 h94 h95 h96 h97 h98 h99 h100 h101 h102
            obtain ⟨S127, f128, h129, h130, h131, h134⟩ := h102
            have h132 := ML_k h129 h89
            have h133 := ML_t h129 h91
            refine En_Ps 1 (pc' := 55) (lv' := [(0, .ref 159), (1, .int y35)]) (st' := [.ref 159]) rfl ?_
            refine En_callV rfl rfl rfl rfl rfl rfl rfl rfl tgz_159 (by decide +kernel) rfl (c_237 σ84 h85 y65 h89) (by decide) (by decide) (fun v136 σ137 h135 => ?_)
            obtain ⟨h138, h139, z141, rfl, h140⟩ := h135
            obtain rfl : σ84 = σ137 := Fr_nil h139
            refine En_iEq _ rfl rfl (fun h142 => ?_) (fun h142 => ?_)
            · refine En_Ps 1 (pc' := 76) (lv' := [(0, .ref 159), (1, .int y35)]) (st' := [.ref 159]) rfl ?_
              refine En_callV rfl rfl rfl rfl rfl rfl rfl rfl tgz_159 (by decide +kernel) rfl (c_237 σ84 h85 y65 h89) (by decide) (by decide) (fun v144 σ145 h143 => ?_)
              obtain ⟨h146, h147, z149, rfl, h148⟩ := h143
              obtain rfl : σ84 = σ145 := Fr_nil h147
              refine En_iNe _ rfl rfl (fun hx => by exfalso; (first | exact q_cffee5c382 h140.2.2.2 h142 h148.2.2.1 hx h148.1 | omega)) (fun h150 => ?_)
              refine En_Ps 1 (pc' := 84) (lv' := [(0, .ref 159), (1, .int y35)]) (st' := [.int (((Int8.ofInt (-4)).toInt32))]) rfl ?_
              have := (by decide : (Int32.ofInt 0).toInt = 0)
              refine En_top (by decide : ((Int8.ofInt (-4)).toInt32).toInt = -4) (fun z151 h152 => ?_)
              exact En_ret (v := some (Value.int z151)) rfl rfl rfl ⟨h85, h86, (Int32.ofInt 0), h88, z151, rfl, ⟨by first | exact q_3a4f36f5dd h152 | omega, by first | exact q_f5f5c736c4 h152 | omega, by decide, by decide, by decide, by decide, ⟨⟨WI_sw h101 h86 (by decide +kernel) hI, MSC_bad h129 h130 (by (first | exact q_fdf04f5fe0 h148.2.2.2 h150 h132 | omega)) (by (first | exact q_df3bae2a4c h152 | omega)) h101⟩, fun zz => by exfalso; rw [← h130, fRead_x (Or.inl (by (first | exact q_fdf04f5fe0 h148.2.2.2 h150 h132 | omega)))] at zz; (first | exact q_e804f08cb8 h148.2.2.2 h150 h132 zz | omega)⟩⟩⟩
            · refine En_Ps 1 (pc' := 62) (lv' := [(0, .ref 159), (1, .int y35)]) (st' := [.ref 159]) rfl ?_
              refine En_getK (j := 10) h91 rfl rfl rfl tgz_159 (by decide +kernel) ?_
              refine En_iEq _ rfl rfl (fun h153 => ?_) (fun h153 => ?_)
              · refine En_Ps 1 (pc' := 76) (lv' := [(0, .ref 159), (1, .int y35)]) (st' := [.ref 159]) rfl ?_
                refine En_callV rfl rfl rfl rfl rfl rfl rfl rfl tgz_159 (by decide +kernel) rfl (c_237 σ84 h85 y65 h89) (by decide) (by decide) (fun v155 σ156 h154 => ?_)
                obtain ⟨h157, h158, z160, rfl, h159⟩ := h154
                obtain rfl : σ84 = σ156 := Fr_nil h158
                refine En_iNe _ rfl rfl (fun h161 => ?_) (fun hx => by exfalso; (first | exact q_d43525113b h140.2.2.1 h142 h140.1 h159.2.2.2 hx | omega))
                refine En_Ps 2 (pc' := 87) (lv' := [(1, .int ((Int32.ofInt 0))), (0, .ref 159)]) (st' := []) rfl ?_
                have key87 : ∀ (n87 : Nat) (σ163 : SG) (y162 : Int32), WT σ163 → Fr [(35, 5), (35, 7), (35, 8), (35, 9), (35, 10), (35, 11), (35, 12), (35, 13), (36, 0), (41, 0)] σ0 σ163 → (σ163 159)[7]? = some (Value.int z2) → (σ163 159)[5]? = some (Value.int ((Int32.ofInt 0))) → (σ163 159)[12]? = some (Value.int y65) → (σ163 159)[8]? = some (Value.int y66) → (σ163 159)[10]? = some (Value.int y67) → 0 ≤ y162.toInt → y162.toInt ≤ 226 → -y162.toInt + 226 < (n87 : Int) → CPY (ff σ163) (wf σ163) y162.toInt → FI σ163 0 → ML By Nb σ163 S127 → En 11 243 none mr_312 (P_312x σ0 By Nb) 87 [(0, .ref 159), (1, .int y162)] [] σ163 := by
                  intro n87
                  induction n87 with
                  | zero =>
                    intro σ163 y162 h164 h165 h166 h167 h168 h169 h170 h171 h172 h173 h174 h175 h176
                    first | exact (q_93df7d31ea h173 h172).elim | (exfalso; omega)
                  | succ n87 ih87 =>
                    intro σ163 y162 h164 h165 h166 h167 h168 h169 h170 h171 h172 h173 h174 h175 h176
                    refine En_Ps 2 (pc' := 91) (lv' := [(0, .ref 159), (1, .int y162)]) (st' := [.int (((Int16.ofInt 226).toInt32)), .int y162]) rfl ?_
                    refine En_icGe _ rfl (by decide : ((Int16.ofInt 226).toInt32).toInt = 226) rfl (fun h177 => ?_) (fun h177 => ?_)
                    · refine En_Ps 1 (pc' := 113) (lv' := [(0, .ref 159), (1, .int y162)]) (st' := [.ref 159]) rfl ?_
                      refine En_getU (j := 1) (u := 160) (g' := 36) (q := 0) rfl rfl rfl tgz_159 (by decide +kernel) h164 (by decide +kernel) un_36_160 (fun h178 => ?_)
                      refine En_Ps 1 (pc' := 118) (lv' := [(0, .ref 159), (1, .int y162)]) (st' := [.int (((Int8.ofInt 7).toInt32)), .ref 160]) rfl ?_
                      refine En_iald (l := 0) (u := 1600) rfl (by decide : ((Int8.ofInt 7).toInt32).toInt = 7) tgz_160 (by decide +kernel) h164 (by decide) (lnI (by decide +kernel : LN _ = 226) (by decide)) (by decide +kernel) (fun z181 h180 h182 h183 => ?_)
                      have := (by decide : (Int32.ofInt 0).toInt = 0)
                      exact En_ret (v := some (Value.int z181)) rfl rfl rfl ⟨h164, h165, (Int32.ofInt 0), h167, z181, rfl, ⟨by first | exact q_3b4a8cfc23 h182 | omega, by first | exact q_5a08281576 h183 | omega, by decide, by decide, by decide, by decide, ⟨⟨FI_x h164 h175 rfl h174 (by (first | exact q_1eb83a62a2 h177 | omega)) h165 (by decide +kernel) hI, MSC_ok h176 h130 (by (first | exact q_4c9c2433b9 h132 h92 h159.2.2.1 h161 h159.1 | omega)) (by (first | exact q_c7950dd462 h133 h132 h92 h159.2.2.1 h161 h159.1 h153 | omega)) h174 (by (first | exact q_1eb83a62a2 h177 | omega)) h180⟩, fun _ => TW6_x h130 (by (first | exact q_4c9c2433b9 h132 h92 h159.2.2.1 h161 h159.1 | omega)) (by (first | exact q_c7950dd462 h133 h132 h92 h159.2.2.1 h161 h159.1 h153 | omega)) h134⟩⟩⟩
                    · refine En_Ps 1 (pc' := 95) (lv' := [(0, .ref 159), (1, .int y162)]) (st' := [.ref 159]) rfl ?_
                      refine En_getU (j := 1) (u := 160) (g' := 36) (q := 0) rfl rfl rfl tgz_159 (by decide +kernel) h164 (by decide +kernel) un_36_160 (fun h184 => ?_)
                      refine En_Ps 2 (pc' := 100) (lv' := [(0, .ref 159), (1, .int y162)]) (st' := [.ref 159, .int y162, .ref 160]) rfl ?_
                      refine En_getU (j := 14) (u := 165) (g' := 41) (q := 0) rfl rfl rfl tgz_159 (by decide +kernel) h164 (by decide +kernel) un_41_165 (fun h186 => ?_)
                      refine En_Ps 1 (pc' := 104) (lv' := [(0, .ref 159), (1, .int y162)]) (st' := [.int y162, .ref 165, .int y162, .ref 160]) rfl ?_
                      refine En_ialdW (n := 226) rfl rfl tgz_165 (by decide +kernel) h164 (by (first | exact q_58e6e51dcc h171 | omega)) (by decide +kernel) (by (first | exact q_f7a270291b h177 | omega)) aw_41 (fun z188 h189 h190 => ?_)
                      refine En_iastW (n := 226) rfl rfl tgz_160 (by decide +kernel) (by (first | exact q_58e6e51dcc h171 | omega)) (by decide +kernel) (by (first | exact q_f7a270291b h177 | omega)) (ft_fw h190 (by (first | exact q_58e6e51dcc h171 | omega)) (by (first | exact q_01af86e644 h177 | omega)) (by (first | exact q_61ddd2b576 | omega))) h164 h165 (by decide +kernel) (fun σ191 h192 h193 h194 h195 => ?_)
                      refine En_Ps 1 (pc' := 109) (lv' := [(1, .int ((y162 + Int32.ofInt 1))), (0, .ref 159)]) (st' := []) rfl ?_
                      refine En_lv1 (addI rfl (by decide : (Int32.ofInt 1).toInt = 1) (by first | exact q_465ab79ac1 h171 | omega) (by first | exact q_00ca1b1d9b h177 | omega)) (fun z196 h197 => ?_)
                      refine En_Ps 1 (pc' := 87) (lv' := [(1, .int z196), (0, .ref 159)]) (st' := []) rfl ?_
                      refine En_lv (lv := [(0, .ref 159), (1, .int z196)]) ⟨rfl, rfl, trivial⟩ ?_
                      exact ih87 σ191 z196 h192 h193 ((h195 _ _ (Or.inl (neTG tgz_159 tgz_160 (by decide)))).trans h166) ((h195 _ _ (Or.inl (neTG tgz_159 tgz_160 (by decide)))).trans h167) ((h195 _ _ (Or.inl (neTG tgz_159 tgz_160 (by decide)))).trans h168) ((h195 _ _ (Or.inl (neTG tgz_159 tgz_160 (by decide)))).trans h169) ((h195 _ _ (Or.inl (neTG tgz_159 tgz_160 (by decide)))).trans h170) (by first | exact q_35104ce9d3 h197 h171 | omega) (by first | exact q_5bd245720d h197 h177 | omega) (by first | exact q_6929b92474 h197 h173 | omega) (CPY_fw h174 h189 h194 h195 (by (first | exact q_58e6e51dcc h171 | omega)) (by (first | exact q_ba1b2c713b h197 | omega))) (FI_ne h175 h195 (by decide)) (ML_ne h176 h195 (by decide))
                have := (by decide : (Int32.ofInt 0).toInt = 0)
                refine En_lv (lv := [(0, .ref 159), (1, .int ((Int32.ofInt 0)))]) ⟨rfl, rfl, trivial⟩ ?_
                exact key87 (Int.toNat (226) + 1) σ84 ((Int32.ofInt 0)) h85 h86 h87 h88 h89 h90 h91 (by decide) (by decide) (by first | exact toN_lt _ | omega) (CPY_0 (by decide)) (FI_z h99 (by (first | exact q_eacb512e73 h159.2.2.1 h161 h159.1 h92 | omega))) (h129)
              · refine En_Ps 1 (pc' := 69) (lv' := [(0, .ref 159), (1, .int y35)]) (st' := [.ref 159]) rfl ?_
                obtain ⟨z199, h198, h200, h201⟩ := WT_peekI h85 tgz_165 (by decide +kernel : FT 41 (7 : Int).toNat = (0, 0, 1600)) (by decide +kernel)
                have h202 := ci_at h198 (rfl : (7 : Int) = 7)
                have h203 := h100 (by (first | exact q_c1d8e49746 h92 h140.2.2.1 h142 h140.1 | omega)) (by (first | exact q_92fdf24cb0 h153 h96 | omega))
                refine En_callV rfl rfl rfl rfl rfl rfl rfl rfl tgz_159 (by decide +kernel) rfl (c_301x σ84 h85 y66 h90 y65 h89 z199 h198 (by (first | exact q_ca2ce0bcba h203 h202 | omega)) (by (first | exact q_59622b1fc0 h140.2.2.1 h142 h140.1 | omega)) h99 h129 (by (first | exact q_4c9c2433b9 h132 h92 h140.2.2.1 h142 h140.1 | omega))) (by decide) (by decide) (fun v205 σ206 h204 => ?_)
                obtain ⟨h207, h208, z210, h211, z212, h213, z214, h215, z216, h217, rfl, h209⟩ := h204
                have h218 := h209.2.2.2.2.2.2.2.2.2.2.2.2.2.2.2
                have h219 := Fr_trans h86 h208 (by decide +kernel)
                have h220 := Imp_m h209.2.2.2.2.2.2.2.2.2.2.2.2.1
                have h221 : SWd σ0 σ206 := SWd_tr h101 (SWd_fr h208 (by decide +kernel))
                refine En_Ps 1 (pc' := 54) (lv' := [(0, .ref 159), (1, .int y35)]) (st' := []) rfl ?_
                have h222 := ci_at h217 (rfl : (7 : Int) = 7)
                exact ih54 σ206 z214 z210 z212 h207 h219 ((h208 _ _ (inW tgz_159 (by decide +kernel))).trans h87) ((h208 _ _ (inW tgz_159 (by decide +kernel))).trans h88) h215 h211 h213 (by first | exact q_ef1e8e38bf h209.2.2.2.2.2.1 | omega) (by first | exact q_87d9217d84 h209.2.2.2.2.2.2.1 | omega) (by first | exact q_996aa4c518 h209.1 | omega) (by first | exact q_70de3c5e42 h209.2.1 | omega) (by first | exact q_ef1e8e38bf h209.2.2.2.1 | omega) (by first | exact q_3b0dd79e8e h209.2.2.2.2.1 | omega) (by omega) (h218.1 _ rfl) (fun _ _ => (by omega)) (h221) (LPJ_s h129 h85 (by (first | exact q_4c9c2433b9 h132 h92 h140.2.2.1 h142 h140.1 | omega)) (by (first | exact q_27f45475c2 h133 h132 h92 h140.2.2.1 h142 h140.1 h153 h96 | omega)) h130 h131 h134 h218.2)
        have := (by decide : (Int32.ofInt 0).toInt = 0)
        have h223 := FI_0 (k := (Int32.ofInt 0).toInt) (CLF_fr (CLF_226 h47 (by (first | exact q_1eb83a62a2 h49 | omega))) h55 (by decide +kernel))
        have h224 := CLF_fr (CLF_226 h47 (by (first | exact q_1eb83a62a2 h49 | omega))) h55 (by decide +kernel) 7 (by (first | decide | omega)) (by (first | decide | omega))
        exact key54 (Int.toNat (5 * (1600 - z57.toInt) + z59.toInt + 9000 * (3 - 0)) + 1) σ53 ((Int32.ofInt 0)) z57 z59 h54 h62 ((h55 _ _ (inW tgz_159 (by decide +kernel))).trans h39) ((h55 _ _ (inW tgz_159 (by decide +kernel))).trans h40) ((h55 _ _ (inW tgz_159 (by decide +kernel))).trans h42) h58 h60 (by decide) (by decide) (by first | exact q_ef1e8e38bf h56.1 | omega) (by first | exact q_70de3c5e42 h56.2.1 | omega) (by first | exact q_ef1e8e38bf h56.2.2.2.1 | omega) (by first | exact q_3b0dd79e8e h56.2.2.2.2.1 | omega) (by omega) (h223) (fun _ _ => (by omega)) (h64) (LPJ_0 h61 (by decide) ((h55 _ _ (inW tgz_159 (by decide +kernel))).trans h42) (by decide) ((h55 _ _ (inW tgz_159 (by decide +kernel))).trans h43) (by decide) (CLF_fr (CLF_226 h47 (by (first | exact q_1eb83a62a2 h49 | omega))) h55 (by decide +kernel)))
      · refine En_Ps 1 (pc' := 38) (lv' := [(0, .ref 159), (1, .int y35)]) (st' := [.ref 159]) rfl ?_
        refine En_getU (j := 14) (u := 165) (g' := 41) (q := 0) rfl rfl rfl tgz_159 (by decide +kernel) h37 (by decide +kernel) un_41_165 (fun h225 => ?_)
        refine En_Ps 2 (pc' := 43) (lv' := [(0, .ref 159), (1, .int y35)]) (st' := [.int ((Int32.ofInt 0)), .int y35, .ref 165]) rfl ?_
        refine En_iastW (n := 226) rfl rfl tgz_165 (by decide +kernel) (by (first | exact q_58e6e51dcc h44 | omega)) (by decide +kernel) (by (first | exact q_f7a270291b h49 | omega)) (ft_zero (by (first | exact q_58e6e51dcc h44 | omega)) (by (first | exact q_01af86e644 h49 | omega)) (by decide)) h37 h38 (by decide +kernel) (fun σ227 h228 h229 h230 h231 => ?_)
        have h232 : SWd σ0 σ227 := SWd_tr h48 (fun i => ci_ne h231 (by decide) i)
        refine En_Ps 1 (pc' := 47) (lv' := [(1, .int ((y35 + Int32.ofInt 1))), (0, .ref 159)]) (st' := []) rfl ?_
        refine En_lv1 (addI rfl (by decide : (Int32.ofInt 1).toInt = 1) (by first | exact q_465ab79ac1 h44 | omega) (by first | exact q_00ca1b1d9b h49 | omega)) (fun z233 h234 => ?_)
        refine En_Ps 1 (pc' := 30) (lv' := [(1, .int z233), (0, .ref 159)]) (st' := []) rfl ?_
        refine En_lv (lv := [(0, .ref 159), (1, .int z233)]) ⟨rfl, rfl, trivial⟩ ?_
        exact ih30 σ227 z233 h228 h229 ((h231 _ _ (Or.inl (neTG tgz_159 tgz_165 (by decide)))).trans h39) ((h231 _ _ (Or.inl (neTG tgz_159 tgz_165 (by decide)))).trans h40) ((h231 _ _ (Or.inl (neTG tgz_159 tgz_165 (by decide)))).trans h41) ((h231 _ _ (Or.inl (neTG tgz_159 tgz_165 (by decide)))).trans h42) ((h231 _ _ (Or.inl (neTG tgz_159 tgz_165 (by decide)))).trans h43) (by first | exact q_35104ce9d3 h234 h44 | omega) (by first | exact q_5bd245720d h234 h49 | omega) (by first | exact q_6929b92474 h234 h46 | omega) (CLF_s h47 h230 h231 (by decide) (by (first | exact q_58e6e51dcc h44 | omega)) (by (first | exact q_ba1b2c713b h234 | omega))) (h232)
  have := (by decide : (Int32.ofInt 0).toInt = 0)
  refine En_lv (lv := [(0, .ref 159), (1, .int ((Int32.ofInt 0)))]) ⟨rfl, rfl, trivial⟩ ?_
  exact key30 (Int.toNat (226) + 1) σ29 ((Int32.ofInt 0)) h30 h31 ((h33 _ _ (Or.inr (by decide))).trans ((h27 _ _ (Or.inr (by decide))).trans ((h21 _ _ (Or.inr (by decide))).trans ((h15 _ _ (Or.inr (by decide))).trans h8)))) ((h33 _ _ (Or.inr (by decide))).trans ((h27 _ _ (Or.inr (by decide))).trans ((h21 _ _ (Or.inr (by decide))).trans h14))) ((h33 _ _ (Or.inr (by decide))).trans ((h27 _ _ (Or.inr (by decide))).trans h20)) ((h33 _ _ (Or.inr (by decide))).trans h26) h32 (by decide) (by decide) (by first | exact toN_lt _ | omega) (CLF_0 (by decide)) (h34)
/-- DoorSchoolModel.teach(III)I -/
abbrev P_320x (σ0 : SG) (a : Int32) (b : Int32) (c : Int32) : PO := fun v σ => WT σ ∧ Fr [(36, 0)] σ0 σ ∧ ∃ ret : Int32, v = some (Value.int ret) ∧ -ret.toInt - 5 ≤ 0 ∧ ret.toInt - 12 ≤ 0 ∧ ((WINV (wf σ0) → WINV (wf σ)) ∧ ret.toInt = tcR (wf σ0) a.toInt b.toInt c.toInt ∧ (∀ i : Int, 0 ≤ i → i < 226 → wf σ i = tcW (wf σ0) a.toInt b.toInt c.toInt i))
set_option maxRecDepth 10000 in
set_option maxHeartbeats 4000000 in
theorem c_320x (σ0 : SG) (hσ0 : WT σ0) (a : Int32) (b : Int32) (c : Int32) : En 3 62 none mr_320 (P_320x σ0 a b c) 0 [(0, .ref 159), (1, .int a), (2, .int b), (3, .int c)] [] σ0 := by
  have hF0 : Fr [(36, 0)] σ0 σ0 := Fr_rfl
  refine En_Ps 2 (pc' := 2) (lv' := [(0, .ref 159), (1, .int a), (2, .int b), (3, .int c)]) (st' := [.int a, .ref 159]) rfl ?_
  obtain ⟨z2, h1, h3, h4⟩ := WT_peekI hσ0 tgz_160 (by decide +kernel : FT 36 (2 : Int).toNat = (0, 0, 4)) (by decide +kernel)
  refine En_callV rfl rfl rfl rfl rfl rfl rfl rfl tgz_159 (by decide +kernel) rfl (c_254 σ0 hσ0 a z2 h1) (by decide) (by decide) (fun v6 σ7 h5 => ?_)
  obtain ⟨h8, h9, z11, rfl, h10⟩ := h5
  obtain rfl : σ0 = σ7 := Fr_nil h9
  have w12 : wf σ0 (2) = z2.toInt := ci_at h1 (by (first | decide | omega))
  refine En_iEq _ rfl rfl (fun h13 => ?_) (fun h13 => ?_)
  · refine En_Ps 1 (pc' := 29) (lv' := [(0, .ref 159), (1, .int a), (2, .int b), (3, .int c)]) (st' := [.int (((Int8.ofInt (-2)).toInt32))]) rfl ?_
    refine En_top (by decide : ((Int8.ofInt (-2)).toInt32).toInt = -2) (fun z14 h15 => ?_)
    exact En_ret (v := some (Value.int z14)) rfl rfl rfl ⟨hσ0, hF0, z14, rfl, ⟨by first | exact q_f1982a04c6 h15 | omega, by first | exact q_5a5c18c2ab h15 | omega, (by have q0 : ¬ okL (wf σ0) a.toInt b.toInt c.toInt := (fun ⟨q1, q2, q3, q4, q5, q6, q7⟩ => by (first | exact q_de08783852 h10.2.2.2.1 q1 q2 w12 h13 | omega)); exact ⟨fun H => H, tcR_2 q0 (by (first | exact q_a664922815 h15 | omega)), tcMn (fun q => q0 q.1) (fun i _ _ => rfl)⟩)⟩⟩
  · refine En_Ps 3 (pc' := 11) (lv' := [(0, .ref 159), (1, .int a), (2, .int b), (3, .int c)]) (st' := [.long b.toInt64, .ref 159]) rfl ?_
    obtain ⟨z17, h16, h18, h19⟩ := WT_peekI hσ0 tgz_160 (by decide +kernel : FT 36 (0 : Int).toNat = (0, 0, 4)) (by decide +kernel)
    obtain ⟨z21, h20, h22, h23⟩ := WT_peekI hσ0 tgz_160 (by decide +kernel : FT 36 (7 : Int).toNat = (0, 0, 1600)) (by decide +kernel)
    have : b.toInt64.toInt = b.toInt := (i2lI rfl)
    refine En_callV rfl rfl rfl rfl rfl rfl rfl rfl tgz_159 (by decide +kernel) rfl (c_259x σ0 hσ0 b.toInt64 z17 h16 z21 h20) (by decide) (by decide) (fun v25 σ26 h24 => ?_)
    obtain ⟨h27, h28, z30, rfl, h29⟩ := h24
    have h31 := h29.2.2.2
    obtain rfl : σ0 = σ26 := Fr_nil h28
    have h32 := h31
    have w33 : wf σ0 (0) = z17.toInt := ci_at h16 (by (first | decide | omega))
    have w34 : wf σ0 (7) = z21.toInt := ci_at h20 (by (first | decide | omega))
    have h35 : pI (wf σ0 0) = pI (z17.toInt) := by rw [w33]
    refine En_iEq _ rfl rfl (fun h36 => ?_) (fun h36 => ?_)
    · refine En_Ps 1 (pc' := 29) (lv' := [(0, .ref 159), (1, .int a), (2, .int b), (3, .int c)]) (st' := [.int (((Int8.ofInt (-2)).toInt32))]) rfl ?_
      refine En_top (by decide : ((Int8.ofInt (-2)).toInt32).toInt = -2) (fun z37 h38 => ?_)
      exact En_ret (v := some (Value.int z37)) rfl rfl rfl ⟨hσ0, hF0, z37, rfl, ⟨by first | exact q_f1982a04c6 h38 | omega, by first | exact q_5a5c18c2ab h38 | omega, (by have q0 : ¬ okL (wf σ0) a.toInt b.toInt c.toInt := (fun ⟨q1, q2, q3, q4, q5, q6, q7⟩ => by (first | exact q_76a259c2a8 q5 h35 this h32 h36 w34 q3 q4 | omega)); exact ⟨fun H => H, tcR_2 q0 (by (first | exact q_a664922815 h38 | omega)), tcMn (fun q => q0 q.1) (fun i _ _ => rfl)⟩)⟩⟩
    · have h39 := Imp_m h29.2.2.1 (by first | exact q_e3350da514 h36 h29.1 | omega)
      refine En_Ps 4 (pc' := 21) (lv' := [(0, .ref 159), (1, .int a), (2, .int b), (3, .int c)]) (st' := [.long ((Int64.ofNat 1)), .long ((Int64.ofNat 0)), .long c.toInt64]) rfl ?_
      have : c.toInt64.toInt = c.toInt := (i2lI rfl)
      have := (by decide : ((Int64.ofNat 0)).toInt = 0)
      have := (by decide : ((Int64.ofNat 1)).toInt = 1)
      refine En_callS rfl rfl rfl rfl rfl rfl rfl rfl rfl (c_249 σ0 hσ0 c.toInt64 ((Int64.ofNat 0)) ((Int64.ofNat 1))) (by decide) (by decide) (fun v41 σ42 h40 => ?_)
      obtain ⟨h43, h44, z46, rfl, h45⟩ := h40
      obtain rfl : σ0 = σ42 := Fr_nil h44
      refine En_iNe _ rfl rfl (fun h47 => ?_) (fun h47 => ?_)
      · refine En_Ps 3 (pc' := 33) (lv' := [(0, .ref 159), (1, .int a), (2, .int b), (3, .int c)]) (st' := [.int ((Int32.ofInt 2)), .int a, .ref 159]) rfl ?_
        have := (by decide : ((Int32.ofInt 2)).toInt = 2)
        obtain ⟨z48, h49, h50, h51⟩ := WT_peekJ (J := (4 * a.toInt + ((Int32.ofInt 2)).toInt + 10)) (l := 0) (u := 12) hσ0 tgz_160 (by decide +kernel) (by (first | exact q_8c91a107f3 this h10.2.2.1 h13 h10.1 | omega)) (lnI (by decide +kernel : LN _ = 226) (by (first | exact q_8782e16cf0 this h10.2.2.2.2 h10.2.1 h13 h10.1 | omega))) (FTrow 36 12 4 4 (by decide +kernel) (by (first | exact q_1f09e22d0e this h10.2.2.1 h13 h10.1 | omega)) (by (first | exact q_adcac83064 this h10.2.2.2.2 h10.2.1 h13 h10.1 | omega)) (by omega))
        have := (by decide : ((Int32.ofInt 2)).toInt = 2)
        refine En_callV rfl rfl rfl rfl rfl rfl rfl rfl tgz_159 (by decide +kernel) rfl (c_290c σ0 hσ0 a ((Int32.ofInt 2)) (geI rfl (by (first | exact q_bf8258001b h10.2.2.1 h13 h10.1 | omega))) (leI rfl (by (first | exact q_88b0c3c731 h10.2.2.1 h13 h10.1 h4 | omega))) (geI (by decide : (Int32.ofInt 2).toInt = 2) (by decide)) (leI (by decide : (Int32.ofInt 2).toInt = 2) (by decide)) z48 h49) (by decide) (by decide) (fun v53 σ54 h52 => ?_)
        obtain ⟨h55, h56, z58, rfl, h57⟩ := h52
        obtain rfl : σ0 = σ54 := Fr_nil h56
        refine En_Ps 1 (pc' := 38) (lv' := [(0, .ref 159), (1, .int a), (2, .int b), (3, .int c)]) (st' := [.int (((Int8.ofInt 12).toInt32)), .int z58]) rfl ?_
        have w59 : wf σ0 (12 + 4 * a.toInt) = z48.toInt := ci_at h49 (by (first | exact q_6f6f6535ca this | omega))
        refine En_icNe _ rfl (by decide : ((Int8.ofInt 12).toInt32).toInt = 12) rfl (fun h60 => ?_) (fun h60 => ?_)
        · refine En_Ps 1 (pc' := 45) (lv' := [(0, .ref 159), (1, .int a), (2, .int b), (3, .int c)]) (st' := [.ref 159]) rfl ?_
          refine En_getU (j := 1) (u := 160) (g' := 36) (q := 0) rfl rfl rfl tgz_159 (by decide +kernel) hσ0 (by decide +kernel) un_36_160 (fun h61 => ?_)
          refine En_Ps 1 (pc' := 50) (lv' := [(0, .ref 159), (1, .int a), (2, .int b), (3, .int c)]) (st' := [.int (((Int8.ofInt 6).toInt32)), .ref 160]) rfl ?_
          refine En_iald (l := 0) (u := 60) rfl (by decide : ((Int8.ofInt 6).toInt32).toInt = 6) tgz_160 (by decide +kernel) hσ0 (by decide) (lnI (by decide +kernel : LN _ = 226) (by decide)) (by decide +kernel) (fun z64 h63 h65 h66 => ?_)
          refine En_Ps 1 (pc' := 53) (lv' := [(0, .ref 159), (1, .int a), (2, .int b), (3, .int c)]) (st' := [.int (((Int8.ofInt 60).toInt32)), .int z64]) rfl ?_
          have w67 : wf σ0 (6) = z64.toInt := ci_at h63 (by (first | decide | omega))
          refine En_icNe _ rfl (by decide : ((Int8.ofInt 60).toInt32).toInt = 60) rfl (fun h68 => ?_) (fun h68 => ?_)
          · refine En_Ps 4 (pc' := 63) (lv' := [(0, .ref 159), (1, .int a), (2, .int b), (3, .int c)]) (st' := [.int ((Int32.ofInt 2)), .int a, .ref 159, .int a]) rfl ?_
            have := (by decide : ((Int32.ofInt 2)).toInt = 2)
            have := (by decide : ((Int32.ofInt 2)).toInt = 2)
            refine En_callV rfl rfl rfl rfl rfl rfl rfl rfl tgz_159 (by decide +kernel) rfl (c_290c σ0 hσ0 a ((Int32.ofInt 2)) (geI rfl (by (first | exact q_bf8258001b h10.2.2.1 h13 h10.1 | omega))) (leI rfl (by (first | exact q_88b0c3c731 h10.2.2.1 h13 h10.1 h4 | omega))) (geI (by decide : (Int32.ofInt 2).toInt = 2) (by decide)) (leI (by decide : (Int32.ofInt 2).toInt = 2) (by decide)) z48 h49) (by decide) (by decide) (fun v70 σ71 h69 => ?_)
            obtain ⟨h72, h73, z75, rfl, h74⟩ := h69
            obtain rfl : σ0 = σ71 := Fr_nil h73
            refine En_callS rfl rfl rfl rfl rfl rfl rfl rfl rfl (c_281 σ0 hσ0 a z75 (geI rfl (by (first | exact q_bf8258001b h10.2.2.1 h13 h10.1 | omega))) (leI rfl (by (first | exact q_88b0c3c731 h10.2.2.1 h13 h10.1 h4 | omega))) (geI rfl (by first | exact q_ef1e8e38bf h74.1 | omega)) (leI rfl (by first | exact q_b48fc66505 h74.2.1 | omega))) (by decide) (by decide) (fun v77 σ78 h76 => ?_)
            obtain ⟨h79, h80, z82, rfl, h81⟩ := h76
            obtain rfl : σ0 = σ78 := Fr_nil h80
            refine En_Ps 1 (pc' := 71) (lv' := [(4, .int z82), (0, .ref 159), (1, .int a), (2, .int b), (3, .int c)]) (st' := []) rfl ?_
            refine En_Ps 1 (pc' := 72) (lv' := [(4, .int z82), (0, .ref 159), (1, .int a), (2, .int b), (3, .int c)]) (st' := [.ref 159]) rfl ?_
            refine En_getK (j := 1) h61 rfl rfl rfl tgz_159 (by decide +kernel) ?_
            refine En_Ps 2 (pc' := 78) (lv' := [(4, .int z82), (0, .ref 159), (1, .int a), (2, .int b), (3, .int c)]) (st' := [.int b, .int z82, .ref 160]) rfl ?_
            refine En_iast (l := 0) (u := 15) rfl rfl tgz_160 (by decide +kernel) (by first | exact q_2c9de765f8 h81.1 | omega) (lnI (by decide +kernel : LN _ = 226) (by first | exact q_0616d82733 h81.2.1 | omega)) (FTrow 36 26 2 48 (by decide +kernel) (by first | exact q_cfcbae6494 h81.1 | omega) (by (first | exact q_8fd4b72bfa h81.2.2.1 h74.2.2.1 h57.2.2.2 h10.2.2.2.2 h10.2.1 h13 h10.1 h60 h57.2.1 | omega)) (by first | exact q_3ba10c420c h74.2.2.1 h81.2.2.1 h74.2.2.2 h81.2.2.2 | omega)) (rngI rfl (by (first | exact q_bb72464225 (i2lI rfl) h39.1 | omega)) (by (first | exact q_2215209990 (i2lI rfl) h39.2 | omega))) hσ0 hF0 (by decide +kernel) (fun σ83 h84 h85 h86 h87 => ?_)
            refine En_Ps 1 (pc' := 80) (lv' := [(4, .int z82), (0, .ref 159), (1, .int a), (2, .int b), (3, .int c)]) (st' := [.ref 159]) rfl ?_
            refine En_getK (j := 1) ((h87 _ _ (Or.inl (neTG tgz_159 tgz_160 (by decide)))).trans h61) rfl rfl rfl tgz_159 (by decide +kernel) ?_
            refine En_Ps 3 (pc' := 87) (lv' := [(4, .int z82), (0, .ref 159), (1, .int a), (2, .int b), (3, .int c)]) (st' := [.int ((z82 + ((Int32.ofInt 1)))), .ref 160]) rfl ?_
            refine En_top (addI rfl (by decide : (Int32.ofInt 1).toInt = 1) (by first | exact q_c40141e2b1 h81.1 | omega) (by first | exact q_919014a1f8 h81.2.1 | omega)) (fun z88 h89 => ?_)
            refine En_Ps 1 (pc' := 88) (lv' := [(4, .int z82), (0, .ref 159), (1, .int a), (2, .int b), (3, .int c)]) (st' := [.int c, .int z88, .ref 160]) rfl ?_
            refine En_iast (l := 0) (u := 1) rfl rfl tgz_160 (by decide +kernel) (by first | exact q_f9ae7b6bc1 h89 h81.1 | omega) (lnI (by decide +kernel : LN _ = 226) (by first | exact q_4c6d633468 h89 h81.2.1 | omega)) (FTrow 36 27 2 48 (by decide +kernel) (by first | exact q_af8e3f94d3 h89 h81.1 | omega) (by (first | exact q_a31f7f40cb h89 h81.2.2.1 h74.2.2.1 h57.2.2.2 h10.2.2.2.2 h10.2.1 h13 h10.1 h60 h57.2.1 | omega)) (by first | exact q_788aaa09c4 h74.2.2.1 h81.2.2.1 h89 h74.2.2.2 h81.2.2.2 | omega)) (rngI rfl (by (first | exact q_bf5288a390 (i2lI rfl) h45.2.2.1 h47 h45.1 (by decide) | omega)) (by (first | exact q_9535a3cdd5 (i2lI rfl) h45.2.2.1 h47 h45.1 (by decide) | omega))) h84 h85 (by decide +kernel) (fun σ90 h91 h92 h93 h94 => ?_)
            refine En_Ps 1 (pc' := 90) (lv' := [(4, .int z82), (0, .ref 159), (1, .int a), (2, .int b), (3, .int c)]) (st' := [.ref 159]) rfl ?_
            refine En_getK (j := 1) ((h94 _ _ (Or.inl (neTG tgz_159 tgz_160 (by decide)))).trans ((h87 _ _ (Or.inl (neTG tgz_159 tgz_160 (by decide)))).trans h61)) rfl rfl rfl tgz_159 (by decide +kernel) ?_
            refine En_Ps 4 (pc' := 98) (lv' := [(4, .int z82), (0, .ref 159), (1, .int a), (2, .int b), (3, .int c)]) (st' := [.int ((((Int32.ofInt 4)) * a)), .int (((Int8.ofInt 10).toInt32)), .ref 160]) rfl ?_
            refine En_top (mulI (by decide : (Int32.ofInt 4).toInt = 4) rfl (Z := 4 * a.toInt) (by first | exact q_8696eb12a7 | omega) (by first | exact q_bc2cd02f58 h81.2.2.1 h74.2.2.1 h81.1 h57.2.2.2 h60 h57.2.1 | omega) (by first | exact q_bb598b1ffb h81.2.2.2 h74.2.2.2 h81.2.1 h50 | omega)) (fun z95 h96 => ?_)
            refine En_Ps 1 (pc' := 99) (lv' := [(4, .int z82), (0, .ref 159), (1, .int a), (2, .int b), (3, .int c)]) (st' := [.int (((((Int8.ofInt 10).toInt32)) + z95)), .ref 160]) rfl ?_
            refine En_top (addI (by decide : ((Int8.ofInt 10).toInt32).toInt = 10) rfl (by first | exact q_7baf00c54e h96 h81.2.2.1 h74.2.2.1 h81.1 h57.2.2.2 h60 h57.2.1 | omega) (by first | exact q_6ff67d754e h96 h81.2.2.2 h74.2.2.2 h81.2.1 h50 | omega)) (fun z97 h98 => ?_)
            refine En_Ps 2 (pc' := 101) (lv' := [(4, .int z82), (0, .ref 159), (1, .int a), (2, .int b), (3, .int c)]) (st' := [.int ((z97 + ((Int32.ofInt 2)))), .ref 160]) rfl ?_
            refine En_top (addI rfl (by decide : (Int32.ofInt 2).toInt = 2) (by (first | exact q_c9a78fc180 h98 h96 h81.2.2.1 h74.2.1 h81.1 | omega)) (by first | exact q_0919e71a47 h98 h96 h81.2.2.2 h74.2.2.2 h81.2.1 h50 | omega)) (fun z99 h100 => ?_)
            refine En_Ps 1 (pc' := 102) (lv' := [(4, .int z82), (0, .ref 159), (1, .int a), (2, .int b), (3, .int c)]) (st' := [.int z99, .ref 160, .int z99, .ref 160]) rfl ?_
            have h102 : (σ90 160)[(z99.toInt).toNat]? = some (Value.int z48) := by rw [show (z99.toInt) = (4 * a.toInt + ((Int32.ofInt 2)).toInt + 10) by (first | exact q_1601abc26c h100 h98 h96 (by decide) | omega)]; exact ((h94 _ _ (Or.inr (by (first | exact q_9245b45e8a h81.2.2.2 h74.1 (by decide) h89 h81.1 | omega)))).trans ((h87 _ _ (Or.inr (by (first | exact q_87ebcbb8bd h81.2.2.2 h74.1 (by decide) h81.1 | omega)))).trans h49))
            refine En_ialdK h102 rfl rfl tgz_160 (by decide +kernel) h91 (by (first | exact q_1d70ed5bbb h100 h98 h96 h81.2.2.1 h74.2.1 h81.1 | omega)) (lnI (by decide +kernel : LN _ = 226) (by first | exact q_f9b8279f5d h100 h98 h96 h81.2.2.2 h74.2.2.2 h81.2.1 h50 | omega)) ?_
            refine En_Ps 2 (pc' := 105) (lv' := [(4, .int z82), (0, .ref 159), (1, .int a), (2, .int b), (3, .int c)]) (st' := [.int ((z48 + ((Int32.ofInt 1)))), .int z99, .ref 160]) rfl ?_
            refine En_top (addI rfl (by decide : (Int32.ofInt 1).toInt = 1) (by first | exact q_465ab79ac1 h50 | omega) (by first | exact q_1fdc13c345 h51 | omega)) (fun z103 h104 => ?_)
            refine En_iast (l := 0) (u := 12) rfl rfl tgz_160 (by decide +kernel) (by (first | exact q_1d70ed5bbb h100 h98 h96 h81.2.2.1 h74.2.1 h81.1 | omega)) (lnI (by decide +kernel : LN _ = 226) (by first | exact q_f9b8279f5d h100 h98 h96 h81.2.2.2 h74.2.2.2 h81.2.1 h50 | omega)) (FTrow 36 12 4 4 (by decide +kernel) (by (first | exact q_1ba435b77f h100 h98 h96 h10.2.2.1 h13 h10.1 | omega)) (by (first | exact q_e74ebd725d h100 h98 h96 h10.2.2.2.2 h10.2.1 h13 h10.1 | omega)) (by first | exact q_29bc46c6fe h96 h98 h100 | omega)) (rngI rfl (by first | exact q_35104ce9d3 h104 h50 | omega) (by first | exact q_fbccb7dd2b h104 h57.2.2.2 h60 h57.2.1 | omega)) h91 h92 (by decide +kernel) (fun σ105 h106 h107 h108 h109 => ?_)
            refine En_Ps 1 (pc' := 107) (lv' := [(4, .int z82), (0, .ref 159), (1, .int a), (2, .int b), (3, .int c)]) (st' := [.ref 159]) rfl ?_
            refine En_getK (j := 1) ((h109 _ _ (Or.inl (neTG tgz_159 tgz_160 (by decide)))).trans ((h94 _ _ (Or.inl (neTG tgz_159 tgz_160 (by decide)))).trans ((h87 _ _ (Or.inl (neTG tgz_159 tgz_160 (by decide)))).trans h61))) rfl rfl rfl tgz_159 (by decide +kernel) ?_
            refine En_Ps 2 (pc' := 114) (lv' := [(4, .int z82), (0, .ref 159), (1, .int a), (2, .int b), (3, .int c)]) (st' := [.ref 159, .int (((Int16.ofInt 166).toInt32)), .ref 160]) rfl ?_
            refine En_getK (j := 1) ((h109 _ _ (Or.inl (neTG tgz_159 tgz_160 (by decide)))).trans ((h94 _ _ (Or.inl (neTG tgz_159 tgz_160 (by decide)))).trans ((h87 _ _ (Or.inl (neTG tgz_159 tgz_160 (by decide)))).trans h61))) rfl rfl rfl tgz_159 (by decide +kernel) ?_
            refine En_Ps 1 (pc' := 119) (lv' := [(4, .int z82), (0, .ref 159), (1, .int a), (2, .int b), (3, .int c)]) (st' := [.int (((Int8.ofInt 6).toInt32)), .ref 160, .int (((Int16.ofInt 166).toInt32)), .ref 160]) rfl ?_
            refine En_ialdK ((h109 _ _ (Or.inr (by (first | exact q_bd5665fe8d h100 h98 h96 h10.2.2.1 h13 h10.1 | omega)))).trans ((h94 _ _ (Or.inr (by (first | exact q_922474b4b9 h89 h81.1 | omega)))).trans ((h87 _ _ (Or.inr (by (first | exact q_502498cf2f h81.1 | omega)))).trans h63))) rfl (by decide : ((Int8.ofInt 6).toInt32).toInt = 6) tgz_160 (by decide +kernel) h106 (by decide) (lnI (by decide +kernel : LN _ = 226) (by decide)) ?_
            refine En_Ps 1 (pc' := 121) (lv' := [(4, .int z82), (0, .ref 159), (1, .int a), (2, .int b), (3, .int c)]) (st' := [.int (((((Int16.ofInt 166).toInt32)) + z64)), .ref 160]) rfl ?_
            refine En_top (addI (by decide : ((Int16.ofInt 166).toInt32).toInt = 166) rfl (by first | exact q_da5003b62f h65 | omega) (by first | exact q_0c115a356a h68 h66 | omega)) (fun z111 h112 => ?_)
            refine En_Ps 1 (pc' := 122) (lv' := [(4, .int z82), (0, .ref 159), (1, .int a), (2, .int b), (3, .int c)]) (st' := [.int a, .int z111, .ref 160]) rfl ?_
            refine En_iast (l := 0) (u := 3) rfl rfl tgz_160 (by decide +kernel) (by first | exact q_3cc24cabc2 h112 h65 | omega) (lnI (by decide +kernel : LN _ = 226) (by first | exact q_1152749836 h112 h68 h66 | omega)) (FTrow 36 166 1 60 (by decide +kernel) (by first | exact q_7a59a1f092 h112 h65 | omega) (by first | exact q_2083981b07 h112 h68 h66 | omega) (by first | exact q_50ef92cd29 | omega)) (rngI rfl (by first | exact q_4752c9823d h81.2.2.1 h74.2.2.1 h81.1 h57.2.2.2 h60 h57.2.1 | omega) (by (first | exact q_88b0c3c731 h10.2.2.1 h13 h10.1 h4 | omega))) h106 h107 (by decide +kernel) (fun σ113 h114 h115 h116 h117 => ?_)
            refine En_Ps 1 (pc' := 124) (lv' := [(4, .int z82), (0, .ref 159), (1, .int a), (2, .int b), (3, .int c)]) (st' := [.ref 159]) rfl ?_
            refine En_getK (j := 1) ((h117 _ _ (Or.inl (neTG tgz_159 tgz_160 (by decide)))).trans ((h109 _ _ (Or.inl (neTG tgz_159 tgz_160 (by decide)))).trans ((h94 _ _ (Or.inl (neTG tgz_159 tgz_160 (by decide)))).trans ((h87 _ _ (Or.inl (neTG tgz_159 tgz_160 (by decide)))).trans h61)))) rfl rfl rfl tgz_159 (by decide +kernel) ?_
            refine En_Ps 2 (pc' := 130) (lv' := [(4, .int z82), (0, .ref 159), (1, .int a), (2, .int b), (3, .int c)]) (st' := [.int (((Int8.ofInt 6).toInt32)), .ref 160, .int (((Int8.ofInt 6).toInt32)), .ref 160]) rfl ?_
            refine En_ialdK ((h117 _ _ (Or.inr (by (first | exact q_3ef789bacd h112 h65 | omega)))).trans ((h109 _ _ (Or.inr (by (first | exact q_bd5665fe8d h100 h98 h96 h10.2.2.1 h13 h10.1 | omega)))).trans ((h94 _ _ (Or.inr (by (first | exact q_922474b4b9 h89 h81.1 | omega)))).trans ((h87 _ _ (Or.inr (by (first | exact q_502498cf2f h81.1 | omega)))).trans h63)))) rfl (by decide : ((Int8.ofInt 6).toInt32).toInt = 6) tgz_160 (by decide +kernel) h114 (by decide) (lnI (by decide +kernel : LN _ = 226) (by decide)) ?_
            refine En_Ps 2 (pc' := 133) (lv' := [(4, .int z82), (0, .ref 159), (1, .int a), (2, .int b), (3, .int c)]) (st' := [.int ((z64 + ((Int32.ofInt 1)))), .int (((Int8.ofInt 6).toInt32)), .ref 160]) rfl ?_
            refine En_top (addI rfl (by decide : (Int32.ofInt 1).toInt = 1) (by first | exact q_465ab79ac1 h65 | omega) (by first | exact q_a7b9738bd6 h68 h66 | omega)) (fun z119 h120 => ?_)
            refine En_iast (l := 0) (u := 60) rfl (by decide : ((Int8.ofInt 6).toInt32).toInt = 6) tgz_160 (by decide +kernel) (by decide) (lnI (by decide +kernel : LN _ = 226) (by decide)) (by decide +kernel) (rngI rfl (by first | exact q_35104ce9d3 h120 h65 | omega) (by first | exact q_c651c9b73b h120 h68 h66 | omega)) h114 h115 (by decide +kernel) (fun σ121 h122 h123 h124 h125 => ?_)
            refine En_Ps 3 (pc' := 137) (lv' := [(4, .int z82), (0, .ref 159), (1, .int a), (2, .int b), (3, .int c)]) (st' := [.int ((Int32.ofInt 2)), .int a, .ref 159]) rfl ?_
            have := (by decide : ((Int32.ofInt 2)).toInt = 2)
            have h126 : (σ121 160)[(4 * a.toInt + ((Int32.ofInt 2)).toInt + 10).toNat]? = some (Value.int z103) := by rw [show (4 * a.toInt + ((Int32.ofInt 2)).toInt + 10) = (z99.toInt) by (first | exact q_79fa1c0768 this h100 h98 h96 | omega)]; exact ((h125 _ _ (Or.inr (by (first | exact q_2d63896104 h100 h98 h96 h10.2.2.1 h13 h10.1 | omega)))).trans ((h117 _ _ (Or.inr (by (first | exact q_5532bce07c h100 h98 h96 h81.2.2.2 h74.1 h112 h65 h81.2.1 | omega)))).trans h108))
            have := (by decide : ((Int32.ofInt 2)).toInt = 2)
            refine En_callV rfl rfl rfl rfl rfl rfl rfl rfl tgz_159 (by decide +kernel) rfl (c_290c σ121 h122 a ((Int32.ofInt 2)) (geI rfl (by first | exact q_4752c9823d h81.2.2.1 h74.2.2.1 h81.1 h57.2.2.2 h60 h57.2.1 | omega)) (leI rfl (by (first | exact q_88b0c3c731 h10.2.2.1 h13 h10.1 h4 | omega))) (geI (by decide : (Int32.ofInt 2).toInt = 2) (by decide)) (leI (by decide : (Int32.ofInt 2).toInt = 2) (by decide)) z103 h126) (by decide) (by decide) (fun v128 σ129 h127 => ?_)
            obtain ⟨h130, h131, z133, rfl, h132⟩ := h127
            obtain rfl : σ121 = σ129 := Fr_nil h131
            exact En_ret (v := some (Value.int z133)) rfl rfl rfl ⟨h122, h123, z133, rfl, ⟨by first | exact q_9c6701e35e h132.1 | omega, by first | exact q_1d71e39f5f h132.2.1 | omega, ⟨fun H => WINV_teach2 (d := a.toInt) (j := z82.toInt) (m := z103.toInt - 1) (nt := z119.toInt - 1) H (fun i hi => (by rw [show wf _ i = ci _ 160 i from rfl, ci_st h124 h125 (by (first | decide | omega)) i hi, ci_st h116 h117 (by (first | exact q_3cc24cabc2 h112 h65 | omega)) i hi, ci_st h108 h109 (by (first | exact q_1d70ed5bbb h100 h98 h96 h81.2.2.1 h74.2.1 h81.1 | omega)) i hi, ci_st h93 h94 (by (first | exact q_f9ae7b6bc1 h89 h81.1 | omega)) i hi, ci_st h86 h87 (by (first | exact q_2c9de765f8 h81.1 | omega)) i hi]; rfl)) (by have e1 := ci_at h49 (show 12 + 4 * a.toInt = (4 * a.toInt + ((Int32.ofInt 2)).toInt + 10) by (first | exact q_6f6f6535ca this | omega)); show _ = ci _ 160 _; (first | exact q_453b8b113a e1 h104 | omega)) (by have e1 := ci_at h63 (show (6 : Int) = (6 : Int) by (first | decide | omega)); show _ = ci _ 160 _; (first | exact q_453b8b113a e1 h120 | omega)) (by (first | exact q_6fdd8e75f3 h68 h120 h66 | omega)) (by (first | exact q_7c9e165f55 h81.2.2.1 h74.2.2.1 h104 h81.1 h132.2.2.2 h132.2.1 | omega)) (by (first | exact q_8ae55f7da6 h10.2.2.1 h13 h10.1 h4 | omega)) (by (first | exact q_09d51fee8c h81.1 | omega)) (by (first | exact q_444d0b0902 h81.2.2.1 h74.2.2.1 h57.2.2.2 h10.2.2.2.2 h10.2.1 h13 h10.1 h60 h57.2.1 | omega)) (by (first | exact q_61ddd2b576 | omega)) (by (first | exact q_ba1b2c713b h89 | omega)) (by (first | exact q_fedd7637cc h100 h98 h96 | omega)) (by (first | exact q_04520550ee h120 h112 | omega)) (by (first | decide | omega)) (by (first | exact q_458ac62b4b | omega)) (by (first | exact q_61ddd2b576 | omega)) (by (first | exact q_458ac62b4b | omega)), tcR_y (show okL (wf σ0) a.toInt b.toInt c.toInt from ⟨by (first | exact q_7c9e165f55 h81.2.2.1 h74.2.2.1 h104 h81.1 h132.2.2.2 h132.2.1 | omega), by (first | exact q_b5763561eb h10.2.2.1 h13 h10.1 w12 | omega), by (first | exact q_2b8898e9e8 h32 w34 h36 h29.1 | omega), by (first | exact q_bb72464225 (i2lI rfl) h39.1 | omega), by (first | exact q_c43dc2793a h35 (i2lI rfl) h32 h36 h29.1 | omega), by (first | exact q_bf5288a390 (i2lI rfl) h45.2.2.1 h47 h45.1 (by decide) | omega), by (first | exact q_9535a3cdd5 (i2lI rfl) h45.2.2.1 h47 h45.1 (by decide) | omega)⟩) (by (first | exact q_4c7ff67812 w59 h104 h132.2.2.2 h132.2.1 | omega)) (by (first | exact q_1cdffe474c h68 w67 h66 | omega)) (by (first | exact q_fdc2a8a8c1 h132.2.2.2 h104 w59 h132.2.2.1 | omega)), tcM (j := z82.toInt) (m := z103.toInt - 1) (nt := z119.toInt - 1) (fun i hi => (by rw [show wf _ i = ci _ 160 i from rfl, ci_st h124 h125 (by (first | decide | omega)) i hi, ci_st h116 h117 (by (first | exact q_3cc24cabc2 h112 h65 | omega)) i hi, ci_st h108 h109 (by (first | exact q_1d70ed5bbb h100 h98 h96 h81.2.2.1 h74.2.1 h81.1 | omega)) i hi, ci_st h93 h94 (by (first | exact q_f9ae7b6bc1 h89 h81.1 | omega)) i hi, ci_st h86 h87 (by (first | exact q_2c9de765f8 h81.1 | omega)) i hi]; rfl)) (by (first | exact q_1582be8e66 h104 w59 | omega)) (by (first | exact q_1582be8e66 h120 w67 | omega)) (show okL (wf σ0) a.toInt b.toInt c.toInt from ⟨by (first | exact q_7c9e165f55 h81.2.2.1 h74.2.2.1 h104 h81.1 h132.2.2.2 h132.2.1 | omega), by (first | exact q_b5763561eb h10.2.2.1 h13 h10.1 w12 | omega), by (first | exact q_2b8898e9e8 h32 w34 h36 h29.1 | omega), by (first | exact q_bb72464225 (i2lI rfl) h39.1 | omega), by (first | exact q_c43dc2793a h35 (i2lI rfl) h32 h36 h29.1 | omega), by (first | exact q_bf5288a390 (i2lI rfl) h45.2.2.1 h47 h45.1 (by decide) | omega), by (first | exact q_9535a3cdd5 (i2lI rfl) h45.2.2.1 h47 h45.1 (by decide) | omega)⟩) (by (first | exact q_51bf40c21b h132.2.2.2 h132.2.1 | omega)) (by (first | exact q_6fdd8e75f3 h68 h120 h66 | omega)) (by (first | exact q_b8a40b89af h104 h81.2.2.2 h74.2.2.2 h81.2.2.1 h74.2.2.1 | omega)) (by (first | exact q_61ddd2b576 | omega)) (by (first | exact q_ba1b2c713b h89 | omega)) (by (first | exact q_fedd7637cc h100 h98 h96 | omega)) (by (first | exact q_04520550ee h120 h112 | omega)) (by (first | decide | omega)) (by (first | exact q_61ddd2b576 | omega)) (by (first | exact q_61ddd2b576 | omega)) (by (first | exact q_458ac62b4b | omega)) (by (first | exact q_61ddd2b576 | omega)) (by (first | exact q_458ac62b4b | omega))⟩⟩⟩
          · refine En_Ps 1 (pc' := 58) (lv' := [(0, .ref 159), (1, .int a), (2, .int b), (3, .int c)]) (st' := [.int (((Int8.ofInt (-5)).toInt32))]) rfl ?_
            refine En_top (by decide : ((Int8.ofInt (-5)).toInt32).toInt = -5) (fun z134 h135 => ?_)
            exact En_ret (v := some (Value.int z134)) rfl rfl rfl ⟨hσ0, hF0, z134, rfl, ⟨by first | exact q_715ce6bb90 h135 | omega, by first | exact q_c602a05ff1 h135 | omega, ⟨fun H => H, tcR_5 (show okL (wf σ0) a.toInt b.toInt c.toInt from ⟨by (first | exact q_bf8258001b h10.2.2.1 h13 h10.1 | omega), by (first | exact q_b5763561eb h10.2.2.1 h13 h10.1 w12 | omega), by (first | exact q_2b8898e9e8 h32 w34 h36 h29.1 | omega), by (first | exact q_bb72464225 (i2lI rfl) h39.1 | omega), by (first | exact q_c43dc2793a h35 (i2lI rfl) h32 h36 h29.1 | omega), by (first | exact q_bf5288a390 (i2lI rfl) h45.2.2.1 h47 h45.1 (by decide) | omega), by (first | exact q_9535a3cdd5 (i2lI rfl) h45.2.2.1 h47 h45.1 (by decide) | omega)⟩) (by (first | exact q_63229ba952 w59 h57.2.2.2 h60 h57.2.1 | omega)) (by (first | exact q_a7ed6b435b w67 h68 | omega)) (by (first | exact q_93e8fcdef2 h135 | omega)), tcMn (fun q => by (first | exact q_d96f75e454 q.2.2 h68 w67 | omega)) (fun i _ _ => rfl)⟩⟩⟩
        · refine En_Ps 1 (pc' := 43) (lv' := [(0, .ref 159), (1, .int a), (2, .int b), (3, .int c)]) (st' := [.int (((Int8.ofInt (-3)).toInt32))]) rfl ?_
          refine En_top (by decide : ((Int8.ofInt (-3)).toInt32).toInt = -3) (fun z136 h137 => ?_)
          exact En_ret (v := some (Value.int z136)) rfl rfl rfl ⟨hσ0, hF0, z136, rfl, ⟨by first | exact q_95657dd6ca h137 | omega, by first | exact q_70e3f14a17 h137 | omega, ⟨fun H => H, tcR_3 (show okL (wf σ0) a.toInt b.toInt c.toInt from ⟨by (first | exact q_bf8258001b h10.2.2.1 h13 h10.1 | omega), by (first | exact q_b5763561eb h10.2.2.1 h13 h10.1 w12 | omega), by (first | exact q_2b8898e9e8 h32 w34 h36 h29.1 | omega), by (first | exact q_bb72464225 (i2lI rfl) h39.1 | omega), by (first | exact q_c43dc2793a h35 (i2lI rfl) h32 h36 h29.1 | omega), by (first | exact q_bf5288a390 (i2lI rfl) h45.2.2.1 h47 h45.1 (by decide) | omega), by (first | exact q_9535a3cdd5 (i2lI rfl) h45.2.2.1 h47 h45.1 (by decide) | omega)⟩) (by (first | exact q_67495b9514 w59 h57.2.2.1 h60 | omega)) (by (first | exact q_a6100519f0 h137 | omega)), tcMn (fun q => by (first | exact q_972a2f0129 q.2.1 h60 w59 h57.2.2.1 | omega)) (fun i _ _ => rfl)⟩⟩⟩
      · refine En_Ps 1 (pc' := 29) (lv' := [(0, .ref 159), (1, .int a), (2, .int b), (3, .int c)]) (st' := [.int (((Int8.ofInt (-2)).toInt32))]) rfl ?_
        refine En_top (by decide : ((Int8.ofInt (-2)).toInt32).toInt = -2) (fun z138 h139 => ?_)
        exact En_ret (v := some (Value.int z138)) rfl rfl rfl ⟨hσ0, hF0, z138, rfl, ⟨by first | exact q_f1982a04c6 h139 | omega, by first | exact q_5a5c18c2ab h139 | omega, (by have q0 : ¬ okL (wf σ0) a.toInt b.toInt c.toInt := (fun ⟨q1, q2, q3, q4, q5, q6, q7⟩ => by (first | exact q_90d7a3982e q6 (by decide) (i2lI rfl) h45.2.2.2 h47 q7 this | omega)); exact ⟨fun H => H, tcR_2 q0 (by (first | exact q_a664922815 h139 | omega)), tcMn (fun q => q0 q.1) (fun i _ _ => rfl)⟩)⟩⟩
end
/-! 32.m09 -/
section
/-- DoorSchoolModel.train(III)I -/
abbrev P_325x (σ0 : SG) (a : Int32) (b : Int32) (c : Int32) : PO := fun v σ => WT σ ∧ Fr [(36, 0)] σ0 σ ∧ ∃ ret : Int32, v = some (Value.int ret) ∧ -ret.toInt - 2 ≤ 0 ∧ ret.toInt - 50 ≤ 0 ∧ (SAM (wf σ0) (wf σ) ∧ ret.toInt = trR (wf σ0) a.toInt b.toInt c.toInt ∧ (∀ i : Int, 0 ≤ i → i < 226 → wf σ i = trW (wf σ0) a.toInt b.toInt c.toInt i))
set_option maxRecDepth 10000 in
set_option maxHeartbeats 4000000 in
theorem c_325x (σ0 : SG) (hσ0 : WT σ0) (a : Int32) (b : Int32) (c : Int32) : En 2 46 none mr_325 (P_325x σ0 a b c) 0 [(0, .ref 159), (1, .int a), (2, .int b), (3, .int c)] [] σ0 := by
  have hF0 : Fr [(36, 0)] σ0 σ0 := Fr_rfl
  refine En_Ps 2 (pc' := 2) (lv' := [(0, .ref 159), (1, .int a), (2, .int b), (3, .int c)]) (st' := [.int a, .ref 159]) rfl ?_
  obtain ⟨z2, h1, h3, h4⟩ := WT_peekI hσ0 tgz_160 (by decide +kernel : FT 36 (2 : Int).toNat = (0, 0, 4)) (by decide +kernel)
  refine En_callV rfl rfl rfl rfl rfl rfl rfl rfl tgz_159 (by decide +kernel) rfl (c_254 σ0 hσ0 a z2 h1) (by decide) (by decide) (fun v6 σ7 h5 => ?_)
  obtain ⟨h8, h9, z11, rfl, h10⟩ := h5
  obtain rfl : σ0 = σ7 := Fr_nil h9
  have w12 : wf σ0 (2) = z2.toInt := ci_at h1 (by (first | decide | omega))
  refine En_iEq _ rfl rfl (fun h13 => ?_) (fun h13 => ?_)
  · refine En_Ps 1 (pc' := 42) (lv' := [(0, .ref 159), (1, .int a), (2, .int b), (3, .int c)]) (st' := [.int (((Int8.ofInt (-2)).toInt32))]) rfl ?_
    refine En_top (by decide : ((Int8.ofInt (-2)).toInt32).toInt = -2) (fun z14 h15 => ?_)
    exact En_ret (v := some (Value.int z14)) rfl rfl rfl ⟨hσ0, hF0, z14, rfl, ⟨by first | exact q_f35c5d346c h15 | omega, by first | exact q_307520f238 h15 | omega, (by have q0 : ¬ trC (wf σ0) a.toInt b.toInt c.toInt := (by omega); exact ⟨fun _ _ => rfl, trR_n q0 (by (first | exact q_a664922815 h15 | omega)), trMn q0⟩)⟩⟩
  · refine En_Ps 4 (pc' := 12) (lv' := [(0, .ref 159), (1, .int a), (2, .int b), (3, .int c)]) (st' := [.long ((Int64.ofNat 1)), .long ((Int64.ofNat 0)), .long b.toInt64]) rfl ?_
    have : b.toInt64.toInt = b.toInt := (i2lI rfl)
    have := (by decide : ((Int64.ofNat 0)).toInt = 0)
    have := (by decide : ((Int64.ofNat 1)).toInt = 1)
    refine En_callS rfl rfl rfl rfl rfl rfl rfl rfl rfl (c_249 σ0 hσ0 b.toInt64 ((Int64.ofNat 0)) ((Int64.ofNat 1))) (by decide) (by decide) (fun v17 σ18 h16 => ?_)
    obtain ⟨h19, h20, z22, rfl, h21⟩ := h16
    obtain rfl : σ0 = σ18 := Fr_nil h20
    refine En_iEq _ rfl rfl (fun h23 => ?_) (fun h23 => ?_)
    · refine En_Ps 1 (pc' := 42) (lv' := [(0, .ref 159), (1, .int a), (2, .int b), (3, .int c)]) (st' := [.int (((Int8.ofInt (-2)).toInt32))]) rfl ?_
      refine En_top (by decide : ((Int8.ofInt (-2)).toInt32).toInt = -2) (fun z24 h25 => ?_)
      exact En_ret (v := some (Value.int z24)) rfl rfl rfl ⟨hσ0, hF0, z24, rfl, ⟨by first | exact q_f35c5d346c h25 | omega, by first | exact q_307520f238 h25 | omega, (by have q0 : ¬ trC (wf σ0) a.toInt b.toInt c.toInt := (by omega); exact ⟨fun _ _ => rfl, trR_n q0 (by (first | exact q_a664922815 h25 | omega)), trMn q0⟩)⟩⟩
    · refine En_Ps 4 (pc' := 22) (lv' := [(0, .ref 159), (1, .int a), (2, .int b), (3, .int c)]) (st' := [.int b, .long ((Int64.ofNat 0)), .long c.toInt64]) rfl ?_
      refine En_iNe _ rfl rfl (fun h26 => ?_) (fun h26 => ?_)
      · refine En_Ps 1 (pc' := 34) (lv' := [(0, .ref 159), (1, .int a), (2, .int b), (3, .int c)]) (st' := [.long ((50 : Int64)), .long ((Int64.ofNat 0)), .long c.toInt64]) rfl ?_
        have : c.toInt64.toInt = c.toInt := (i2lI rfl)
        have := (by decide : ((Int64.ofNat 0)).toInt = 0)
        have := (by decide : ((50 : Int64)).toInt = 50)
        refine En_callS rfl rfl rfl rfl rfl rfl rfl rfl rfl (c_249 σ0 hσ0 c.toInt64 ((Int64.ofNat 0)) ((50 : Int64))) (by decide) (by decide) (fun v28 σ29 h27 => ?_)
        obtain ⟨h30, h31, z33, rfl, h32⟩ := h27
        obtain rfl : σ0 = σ29 := Fr_nil h31
        refine En_iNe _ rfl rfl (fun h34 => ?_) (fun h34 => ?_)
        · refine En_Ps 3 (pc' := 46) (lv' := [(0, .ref 159), (1, .int a), (2, .int b), (3, .int c)]) (st' := [.int b, .int a, .ref 159]) rfl ?_
          obtain ⟨z35, h36, h37, h38⟩ := WT_peekJ (J := (4 * a.toInt + b.toInt + 10)) (l := 0) (u := 50) hσ0 tgz_160 (by decide +kernel) (by (first | exact q_7d8ef59d49 (i2lI rfl) h21.2.2.1 h23 h21.1 h10.2.2.1 h13 h10.1 (by decide) | omega)) (lnI (by decide +kernel : LN _ = 226) (by (first | exact q_058b1ce46b (i2lI rfl) h21.2.2.1 h23 h21.1 h10.2.2.2.2 h10.2.1 h13 h10.1 (by decide) | omega))) (FTrow 36 11 4 4 (by decide +kernel) (by (first | exact q_c83d8db5aa (i2lI rfl) h21.2.2.1 h23 h21.1 h26 (by decide) h10.2.2.1 h13 h10.1 | omega)) (by (first | exact q_169dfd27d6 (i2lI rfl) h21.2.2.1 h23 h21.1 h10.2.2.2.2 h10.2.1 h13 h10.1 (by decide) | omega)) (by omega))
          refine En_callV rfl rfl rfl rfl rfl rfl rfl rfl tgz_159 (by decide +kernel) rfl (c_290b σ0 hσ0 a b (geI rfl (by (first | exact q_bf8258001b h10.2.2.1 h13 h10.1 | omega))) (leI rfl (by (first | exact q_88b0c3c731 h10.2.2.1 h13 h10.1 h4 | omega))) (geI rfl (by (first | exact q_35d5c74914 (i2lI rfl) h26 h21.2.2.1 h23 h21.1 (by decide) | omega))) (leI rfl (by (first | exact q_9535a3cdd5 (i2lI rfl) h21.2.2.1 h23 h21.1 (by decide) | omega))) z35 h36) (by decide) (by decide) (fun v40 σ41 h39 => ?_)
          obtain ⟨h42, h43, z45, rfl, h44⟩ := h39
          obtain rfl : σ0 = σ41 := Fr_nil h43
          refine En_Ps 2 (pc' := 52) (lv' := [(4, .int z45), (0, .ref 159), (1, .int a), (2, .int b), (3, .int c)]) (st' := [.ref 159]) rfl ?_
          refine En_getU (j := 1) (u := 160) (g' := 36) (q := 0) rfl rfl rfl tgz_159 (by decide +kernel) hσ0 (by decide +kernel) un_36_160 (fun h46 => ?_)
          refine En_Ps 4 (pc' := 60) (lv' := [(4, .int z45), (0, .ref 159), (1, .int a), (2, .int b), (3, .int c)]) (st' := [.int ((((Int32.ofInt 4)) * a)), .int (((Int8.ofInt 10).toInt32)), .ref 160]) rfl ?_
          refine En_top (mulI (by decide : (Int32.ofInt 4).toInt = 4) rfl (Z := 4 * a.toInt) (by first | exact q_8696eb12a7 | omega) (by (first | exact q_17b26f6ac2 h10.2.2.1 h13 h10.1 | omega)) (by (first | exact q_0e2f933f9c h10.2.2.2.2 h10.2.1 h13 h10.1 | omega))) (fun z48 h49 => ?_)
          refine En_Ps 1 (pc' := 61) (lv' := [(4, .int z45), (0, .ref 159), (1, .int a), (2, .int b), (3, .int c)]) (st' := [.int (((((Int8.ofInt 10).toInt32)) + z48)), .ref 160]) rfl ?_
          refine En_top (addI (by decide : ((Int8.ofInt 10).toInt32).toInt = 10) rfl (by (first | exact q_7a87566369 h49 h10.2.2.1 h13 h10.1 | omega)) (by (first | exact q_418341a107 h49 h10.2.2.2.2 h10.2.1 h13 h10.1 | omega))) (fun z50 h51 => ?_)
          refine En_Ps 2 (pc' := 63) (lv' := [(4, .int z45), (0, .ref 159), (1, .int a), (2, .int b), (3, .int c)]) (st' := [.int ((z50 + b)), .ref 160]) rfl ?_
          refine En_top (addI rfl rfl (by (first | exact q_93a4d0cb57 h51 h49 (i2lI rfl) h21.2.2.1 h23 h21.1 h10.2.2.1 h13 h10.1 (by decide) | omega)) (by omega)) (fun z52 h53 => ?_)
          refine En_Ps 1 (pc' := 64) (lv' := [(4, .int z45), (0, .ref 159), (1, .int a), (2, .int b), (3, .int c)]) (st' := [.int c, .int z52, .ref 160]) rfl ?_
          have w54 : wf σ0 (10 + 4 * a.toInt + b.toInt) = z35.toInt := ci_at h36 (by (first | exact q_7696185349 | omega))
          refine En_iast (l := 0) (u := 50) rfl rfl tgz_160 (by decide +kernel) (by omega) (lnI (by decide +kernel : LN _ = 226) (by omega)) (FTrow 36 11 4 4 (by decide +kernel) (by omega) (by omega) (by omega)) (rngI rfl (by (first | exact q_bf5288a390 (i2lI rfl) h32.2.2.1 h34 h32.1 (by decide) | omega)) (by (first | exact q_0f8e3468f6 (i2lI rfl) h32.2.2.1 h34 h32.1 this | omega))) hσ0 hF0 (by decide +kernel) (fun σ55 h56 h57 h58 h59 => ?_)
          refine En_Ps 1 (pc' := 67) (lv' := [(4, .int z45), (0, .ref 159), (1, .int a), (2, .int b), (3, .int c)]) (st' := [.int z45]) rfl ?_
          exact En_ret (v := some (Value.int z45)) rfl rfl rfl ⟨h56, h57, z45, rfl, ⟨by first | exact q_70a249c7f8 h44.1 | omega, by first | exact q_ff529c7430 h44.2.1 | omega, ⟨fun i hi => (by rw [show wf _ i = ci _ 160 i from rfl, ci_st h58 h59 (by omega) i (by (first | exact q_2ef998e52d hi | omega)), if_neg (by omega)]; rfl), trR_y (i := 10 + 4 * a.toInt + b.toInt) (by omega) (by (first | exact q_a2721cf405 | omega)) (w54.trans (by (first | exact q_dde8c258c6 h44.2.2.1 h44.2.2.2 | omega))), trM (fun i hi => (by rw [show wf _ i = ci _ 160 i from rfl, ci_st h58 h59 (by omega) i hi]; rfl)) (by omega) (by (first | exact q_2619da2ce7 h53 h51 h49 | omega)) rfl⟩⟩⟩
        · refine En_Ps 1 (pc' := 42) (lv' := [(0, .ref 159), (1, .int a), (2, .int b), (3, .int c)]) (st' := [.int (((Int8.ofInt (-2)).toInt32))]) rfl ?_
          refine En_top (by decide : ((Int8.ofInt (-2)).toInt32).toInt = -2) (fun z60 h61 => ?_)
          exact En_ret (v := some (Value.int z60)) rfl rfl rfl ⟨hσ0, hF0, z60, rfl, ⟨by first | exact q_f35c5d346c h61 | omega, by first | exact q_307520f238 h61 | omega, (by have q0 : ¬ trC (wf σ0) a.toInt b.toInt c.toInt := (by omega); exact ⟨fun _ _ => rfl, trR_n q0 (by (first | exact q_a664922815 h61 | omega)), trMn q0⟩)⟩⟩
      · refine En_Ps 2 (pc' := 34) (lv' := [(0, .ref 159), (1, .int a), (2, .int b), (3, .int c)]) (st' := [.long ((2 : Int64)), .long ((Int64.ofNat 0)), .long c.toInt64]) rfl ?_
        have : c.toInt64.toInt = c.toInt := (i2lI rfl)
        have := (by decide : ((Int64.ofNat 0)).toInt = 0)
        have := (by decide : ((2 : Int64)).toInt = 2)
        refine En_callS rfl rfl rfl rfl rfl rfl rfl rfl rfl (c_249 σ0 hσ0 c.toInt64 ((Int64.ofNat 0)) ((2 : Int64))) (by decide) (by decide) (fun v63 σ64 h62 => ?_)
        obtain ⟨h65, h66, z68, rfl, h67⟩ := h62
        obtain rfl : σ0 = σ64 := Fr_nil h66
        refine En_iNe _ rfl rfl (fun h69 => ?_) (fun h69 => ?_)
        · refine En_Ps 3 (pc' := 46) (lv' := [(0, .ref 159), (1, .int a), (2, .int b), (3, .int c)]) (st' := [.int b, .int a, .ref 159]) rfl ?_
          obtain ⟨z70, h71, h72, h73⟩ := WT_peekJ (J := (4 * a.toInt + b.toInt + 10)) (l := 0) (u := 2) hσ0 tgz_160 (by decide +kernel) (by (first | exact q_4ca85bfec3 h26 h10.2.2.1 h13 h10.1 | omega)) (lnI (by decide +kernel : LN _ = 226) (by (first | exact q_d193e4241b h26 h10.2.2.2.2 h10.2.1 h13 h10.1 | omega))) (FTrow 36 10 4 4 (by decide +kernel) (by (first | exact q_e9e7a4bfb8 h26 h10.2.2.1 h13 h10.1 | omega)) (by (first | exact q_b142d71cf1 h26 h10.2.2.2.2 h10.2.1 h13 h10.1 | omega)) (by omega))
          refine En_callV rfl rfl rfl rfl rfl rfl rfl rfl tgz_159 (by decide +kernel) rfl (c_290a σ0 hσ0 a b (geI rfl (by (first | exact q_bf8258001b h10.2.2.1 h13 h10.1 | omega))) (leI rfl (by (first | exact q_88b0c3c731 h10.2.2.1 h13 h10.1 h4 | omega))) (geI rfl (by first | exact q_55451d0a83 h26 | omega)) (leI rfl (by first | exact q_c5d285f1b9 h26 | omega)) z70 h71) (by decide) (by decide) (fun v75 σ76 h74 => ?_)
          obtain ⟨h77, h78, z80, rfl, h79⟩ := h74
          obtain rfl : σ0 = σ76 := Fr_nil h78
          refine En_Ps 2 (pc' := 52) (lv' := [(4, .int z80), (0, .ref 159), (1, .int a), (2, .int b), (3, .int c)]) (st' := [.ref 159]) rfl ?_
          refine En_getU (j := 1) (u := 160) (g' := 36) (q := 0) rfl rfl rfl tgz_159 (by decide +kernel) hσ0 (by decide +kernel) un_36_160 (fun h81 => ?_)
          refine En_Ps 4 (pc' := 60) (lv' := [(4, .int z80), (0, .ref 159), (1, .int a), (2, .int b), (3, .int c)]) (st' := [.int ((((Int32.ofInt 4)) * a)), .int (((Int8.ofInt 10).toInt32)), .ref 160]) rfl ?_
          refine En_top (mulI (by decide : (Int32.ofInt 4).toInt = 4) rfl (Z := 4 * a.toInt) (by first | exact q_8696eb12a7 | omega) (by (first | exact q_17b26f6ac2 h10.2.2.1 h13 h10.1 | omega)) (by (first | exact q_0e2f933f9c h10.2.2.2.2 h10.2.1 h13 h10.1 | omega))) (fun z83 h84 => ?_)
          refine En_Ps 1 (pc' := 61) (lv' := [(4, .int z80), (0, .ref 159), (1, .int a), (2, .int b), (3, .int c)]) (st' := [.int (((((Int8.ofInt 10).toInt32)) + z83)), .ref 160]) rfl ?_
          refine En_top (addI (by decide : ((Int8.ofInt 10).toInt32).toInt = 10) rfl (by (first | exact q_7a87566369 h84 h10.2.2.1 h13 h10.1 | omega)) (by (first | exact q_418341a107 h84 h10.2.2.2.2 h10.2.1 h13 h10.1 | omega))) (fun z85 h86 => ?_)
          refine En_Ps 2 (pc' := 63) (lv' := [(4, .int z80), (0, .ref 159), (1, .int a), (2, .int b), (3, .int c)]) (st' := [.int ((z85 + b)), .ref 160]) rfl ?_
          refine En_top (addI rfl rfl (by (first | exact q_c790e40c26 h86 h84 h26 h10.2.2.1 h13 h10.1 | omega)) (by (first | exact q_dc418f9501 h86 h84 h26 h10.2.2.2.2 h10.2.1 h13 h10.1 | omega))) (fun z87 h88 => ?_)
          refine En_Ps 1 (pc' := 64) (lv' := [(4, .int z80), (0, .ref 159), (1, .int a), (2, .int b), (3, .int c)]) (st' := [.int c, .int z87, .ref 160]) rfl ?_
          have w89 : wf σ0 (10 + 4 * a.toInt + b.toInt) = z70.toInt := ci_at h71 (by (first | exact q_7696185349 | omega))
          refine En_iast (l := 0) (u := 2) rfl rfl tgz_160 (by decide +kernel) (by (first | exact q_092dc46987 h88 h86 h84 h26 h10.2.2.1 h13 h10.1 | omega)) (lnI (by decide +kernel : LN _ = 226) (by (first | exact q_0214d4d4cf h88 h86 h84 h26 h10.2.2.2.2 h10.2.1 h13 h10.1 | omega))) (FTrow 36 10 4 4 (by decide +kernel) (by (first | exact q_bb6980b449 h88 h86 h84 h26 h10.2.2.1 h13 h10.1 | omega)) (by (first | exact q_d20c319e22 h88 h86 h84 h26 h10.2.2.2.2 h10.2.1 h13 h10.1 | omega)) (by omega)) (rngI rfl (by (first | exact q_bf5288a390 (i2lI rfl) h67.2.2.1 h69 h67.1 (by decide) | omega)) (by (first | exact q_d52851690a (i2lI rfl) h67.2.2.1 h69 h67.1 this | omega))) hσ0 hF0 (by decide +kernel) (fun σ90 h91 h92 h93 h94 => ?_)
          refine En_Ps 1 (pc' := 67) (lv' := [(4, .int z80), (0, .ref 159), (1, .int a), (2, .int b), (3, .int c)]) (st' := [.int z80]) rfl ?_
          exact En_ret (v := some (Value.int z80)) rfl rfl rfl ⟨h91, h92, z80, rfl, ⟨by first | exact q_70a249c7f8 h79.1 | omega, by first | exact q_b4dfe153ab h79.2.1 | omega, ⟨fun i hi => (by rw [show wf _ i = ci _ 160 i from rfl, ci_st h93 h94 (by (first | exact q_092dc46987 h88 h86 h84 h26 h10.2.2.1 h13 h10.1 | omega)) i (by (first | exact q_2ef998e52d hi | omega)), if_neg (by omega)]; rfl), trR_y (i := 10 + 4 * a.toInt + b.toInt) (by omega) (by (first | exact q_a2721cf405 | omega)) (w89.trans (by (first | exact q_dde8c258c6 h79.2.2.1 h79.2.2.2 | omega))), trM (fun i hi => (by rw [show wf _ i = ci _ 160 i from rfl, ci_st h93 h94 (by (first | exact q_092dc46987 h88 h86 h84 h26 h10.2.2.1 h13 h10.1 | omega)) i hi]; rfl)) (by omega) (by (first | exact q_2619da2ce7 h88 h86 h84 | omega)) rfl⟩⟩⟩
        · refine En_Ps 1 (pc' := 42) (lv' := [(0, .ref 159), (1, .int a), (2, .int b), (3, .int c)]) (st' := [.int (((Int8.ofInt (-2)).toInt32))]) rfl ?_
          refine En_top (by decide : ((Int8.ofInt (-2)).toInt32).toInt = -2) (fun z95 h96 => ?_)
          exact En_ret (v := some (Value.int z95)) rfl rfl rfl ⟨hσ0, hF0, z95, rfl, ⟨by first | exact q_f35c5d346c h96 | omega, by first | exact q_307520f238 h96 | omega, (by have q0 : ¬ trC (wf σ0) a.toInt b.toInt c.toInt := (by omega); exact ⟨fun _ _ => rfl, trR_n q0 (by (first | exact q_a664922815 h96 | omega)), trMn q0⟩)⟩⟩
/-- DoorSchoolModel.unteach()I -/
abbrev P_329x (σ0 : SG) : PO := fun v σ => WT σ ∧ Fr [(36, 0)] σ0 σ ∧ ∃ ret : Int32, v = some (Value.int ret) ∧ -ret.toInt - 5 ≤ 0 ∧ ret.toInt - 3 ≤ 0 ∧ (WINV (wf σ) ∧ ret.toInt = utR (wf σ0) ∧ (∀ i : Int, 0 ≤ i → i < 226 → wf σ i = utW (wf σ0) i))
set_option maxRecDepth 10000 in
set_option maxHeartbeats 4000000 in
theorem c_329x (σ0 : SG) (hσ0 : WT σ0) (hI : WINV (wf σ0)) : En 1 20 none mr_329 (P_329x σ0) 0 [(0, .ref 159)] [] σ0 := by
  have hF0 : Fr [(36, 0)] σ0 σ0 := Fr_rfl
  refine En_Ps 1 (pc' := 1) (lv' := [(0, .ref 159)]) (st' := [.ref 159]) rfl ?_
  obtain ⟨z2, h1, h3, h4⟩ := WT_peekI hσ0 tgz_160 (by decide +kernel : FT 36 (7 : Int).toNat = (0, 0, 1600)) (by decide +kernel)
  refine En_callV rfl rfl rfl rfl rfl rfl rfl rfl tgz_159 (by decide +kernel) rfl (c_264 σ0 hσ0 z2 h1) (by decide) (by decide) (fun v6 σ7 h5 => ?_)
  obtain ⟨h8, h9, z11, rfl, h10⟩ := h5
  obtain rfl : σ0 = σ7 := Fr_nil h9
  have w12 : wf σ0 (7) = z2.toInt := ci_at h1 (by (first | decide | omega))
  refine En_iNe _ rfl rfl (fun h13 => ?_) (fun h13 => ?_)
  · refine En_Ps 1 (pc' := 11) (lv' := [(0, .ref 159)]) (st' := [.ref 159]) rfl ?_
    refine En_getU (j := 1) (u := 160) (g' := 36) (q := 0) rfl rfl rfl tgz_159 (by decide +kernel) hσ0 (by decide +kernel) un_36_160 (fun h14 => ?_)
    refine En_Ps 1 (pc' := 16) (lv' := [(0, .ref 159)]) (st' := [.int (((Int8.ofInt 6).toInt32)), .ref 160]) rfl ?_
    refine En_iald (l := 0) (u := 60) rfl (by decide : ((Int8.ofInt 6).toInt32).toInt = 6) tgz_160 (by decide +kernel) hσ0 (by decide) (lnI (by decide +kernel : LN _ = 226) (by decide)) (by decide +kernel) (fun z17 h16 h18 h19 => ?_)
    have w20 : wf σ0 (6) = z17.toInt := ci_at h16 (by (first | decide | omega))
    refine En_iNe _ rfl rfl (fun h21 => ?_) (fun h21 => ?_)
    · refine En_Ps 1 (pc' := 24) (lv' := [(0, .ref 159)]) (st' := [.ref 159]) rfl ?_
      refine En_getK (j := 1) h14 rfl rfl rfl tgz_159 (by decide +kernel) ?_
      refine En_Ps 2 (pc' := 30) (lv' := [(0, .ref 159)]) (st' := [.int (((Int8.ofInt 6).toInt32)), .ref 160, .int (((Int8.ofInt 6).toInt32)), .ref 160]) rfl ?_
      refine En_ialdK h16 rfl (by decide : ((Int8.ofInt 6).toInt32).toInt = 6) tgz_160 (by decide +kernel) hσ0 (by decide) (lnI (by decide +kernel : LN _ = 226) (by decide)) ?_
      refine En_Ps 2 (pc' := 33) (lv' := [(0, .ref 159)]) (st' := [.int ((z17 - ((Int32.ofInt 1)))), .int (((Int8.ofInt 6).toInt32)), .ref 160]) rfl ?_
      refine En_top (subI rfl (by decide : (Int32.ofInt 1).toInt = 1) (by first | exact q_ee101262ad h21 h18 | omega) (by first | exact q_b13050f55d h19 | omega)) (fun z23 h24 => ?_)
      refine En_iast (l := 0) (u := 60) rfl (by decide : ((Int8.ofInt 6).toInt32).toInt = 6) tgz_160 (by decide +kernel) (by decide) (lnI (by decide +kernel : LN _ = 226) (by decide)) (by decide +kernel) (rngI rfl (by first | exact q_1298620a37 h24 h21 h18 | omega) (by first | exact q_7c91e6b6c0 h24 h19 | omega)) hσ0 hF0 (by decide +kernel) (fun σ25 h26 h27 h28 h29 => ?_)
      refine En_Ps 1 (pc' := 35) (lv' := [(0, .ref 159)]) (st' := [.ref 159]) rfl ?_
      refine En_getK (j := 1) ((h29 _ _ (Or.inl (neTG tgz_159 tgz_160 (by decide)))).trans h14) rfl rfl rfl tgz_159 (by decide +kernel) ?_
      refine En_Ps 2 (pc' := 42) (lv' := [(0, .ref 159)]) (st' := [.ref 159, .int (((Int16.ofInt 166).toInt32)), .ref 160]) rfl ?_
      refine En_getK (j := 1) ((h29 _ _ (Or.inl (neTG tgz_159 tgz_160 (by decide)))).trans h14) rfl rfl rfl tgz_159 (by decide +kernel) ?_
      refine En_Ps 1 (pc' := 47) (lv' := [(0, .ref 159)]) (st' := [.int (((Int8.ofInt 6).toInt32)), .ref 160, .int (((Int16.ofInt 166).toInt32)), .ref 160]) rfl ?_
      refine En_ialdK h28 rfl (by decide : ((Int8.ofInt 6).toInt32).toInt = 6) tgz_160 (by decide +kernel) h26 (by decide) (lnI (by decide +kernel : LN _ = 226) (by decide)) ?_
      refine En_Ps 1 (pc' := 49) (lv' := [(0, .ref 159)]) (st' := [.int (((((Int16.ofInt 166).toInt32)) + z23)), .ref 160]) rfl ?_
      refine En_top (addI (by decide : ((Int16.ofInt 166).toInt32).toInt = 166) rfl (by first | exact q_8c0da1ef4b h24 h21 h18 | omega) (by first | exact q_1e28427c20 h24 h19 | omega)) (fun z31 h32 => ?_)
      refine En_iald (l := 0) (u := 3) rfl rfl tgz_160 (by decide +kernel) h26 (by first | exact q_2b9e743492 h32 h24 h21 h18 | omega) (lnI (by decide +kernel : LN _ = 226) (by first | exact q_82d2f5345e h32 h24 h19 | omega)) (FTrow 36 166 1 60 (by decide +kernel) (by first | exact q_72ed8397c6 h32 h24 h21 h18 | omega) (by first | exact q_a6e24c7894 h32 h24 h19 | omega) (by first | exact q_50ef92cd29 | omega)) (fun z34 h33 h35 h36 => ?_)
      have h37 := ci_at h33 (rfl : z31.toInt = z31.toInt)
      have h38 := ci_st h28 h29 (by (first | decide | omega)) (z31.toInt) (by (first | exact q_ab4947d449 h32 h24 h18 | omega))
      rw [if_neg (by (first | exact q_ca55fb7a33 h32 h24 h18 | omega))] at h38
      refine En_Ps 2 (pc' := 52) (lv' := [(1, .int z34), (0, .ref 159)]) (st' := [.ref 159]) rfl ?_
      refine En_getK (j := 1) ((h29 _ _ (Or.inl (neTG tgz_159 tgz_160 (by decide)))).trans h14) rfl rfl rfl tgz_159 (by decide +kernel) ?_
      refine En_Ps 4 (pc' := 60) (lv' := [(1, .int z34), (0, .ref 159)]) (st' := [.int ((((Int32.ofInt 4)) * z34)), .int (((Int8.ofInt 10).toInt32)), .ref 160]) rfl ?_
      refine En_top (mulI (by decide : (Int32.ofInt 4).toInt = 4) rfl (Z := 4 * z34.toInt) (by first | exact q_8696eb12a7 | omega) (by first | exact q_be45967ac2 h35 | omega) (by first | exact q_395a9d924c h36 | omega)) (fun z40 h41 => ?_)
      refine En_Ps 1 (pc' := 61) (lv' := [(1, .int z34), (0, .ref 159)]) (st' := [.int (((((Int8.ofInt 10).toInt32)) + z40)), .ref 160]) rfl ?_
      refine En_top (addI (by decide : ((Int8.ofInt 10).toInt32).toInt = 10) rfl (by first | exact q_7bfa00123f h41 h35 | omega) (by first | exact q_a63fdf625c h41 h36 | omega)) (fun z42 h43 => ?_)
      refine En_Ps 2 (pc' := 63) (lv' := [(1, .int z34), (0, .ref 159)]) (st' := [.int ((z42 + ((Int32.ofInt 2)))), .ref 160]) rfl ?_
      refine En_top (addI rfl (by decide : (Int32.ofInt 2).toInt = 2) (by first | exact q_f48788af97 h43 h41 h35 | omega) (by first | exact q_92445dc00e h43 h41 h36 | omega)) (fun z44 h45 => ?_)
      refine En_Ps 1 (pc' := 64) (lv' := [(1, .int z34), (0, .ref 159)]) (st' := [.int z44, .ref 160, .int z44, .ref 160]) rfl ?_
      refine En_iald (l := 0) (u := 12) rfl rfl tgz_160 (by decide +kernel) h26 (by first | exact q_a578b517ac h45 h43 h41 h35 | omega) (lnI (by decide +kernel : LN _ = 226) (by first | exact q_f266bffb3f h45 h43 h41 h36 | omega)) (FTrow 36 12 4 4 (by decide +kernel) (by first | exact q_25a2632096 h45 h43 h41 h35 | omega) (by first | exact q_6a14783eb1 h45 h43 h41 h36 | omega) (by first | exact q_29bc46c6fe h41 h43 h45 | omega)) (fun z47 h46 h48 h49 => ?_)
      refine En_Ps 1 (pc' := 66) (lv' := [(1, .int z34), (0, .ref 159)]) (st' := [.int ((Int32.ofInt 1)), .int z47, .int z44, .ref 160]) rfl ?_
      have h50 := WINV_ge hI (d := z34.toInt) (nt := z23.toInt + 1) (by have e1 := ci_at h16 (show (6 : Int) = (6 : Int) by (first | decide | omega)); show _ = ci _ 160 _; (first | exact q_a10a85d7da e1 h24 | omega)) (by (first | exact q_b63492755d h21 h18 h24 | omega)) (by show _ = ci _ 160 _; rw [show (166 : Int) + ((z23.toInt + 1) - 1) = z31.toInt by (first | exact q_08873226a4 h32 | omega)]; (first | exact q_aeeede310e h38 h37 | omega)) (by (first | exact q_58e6e51dcc h35 | omega)) (by (first | exact q_718bc96520 h36 | omega))
      have h51 := ci_at h46 (by (first | exact q_cf002ccb49 h45 h43 h41 | omega) : 12 + 4 * z34.toInt = _)
      have h52 := ci_st h28 h29 (by (first | decide | omega)) (12 + 4 * z34.toInt) (by (first | exact q_8a0e8d37df h35 | omega))
      rw [if_neg (by (first | exact q_3777836402 h35 | omega))] at h52
      have h53 : 1 ≤ z47.toInt := by have e3 : wf σ0 (12 + 4 * z34.toInt) = ci σ0 160 (12 + 4 * z34.toInt) := rfl; (first | exact q_2f6ee56928 h51 h52 e3 h50 | omega)
      refine En_Ps 1 (pc' := 67) (lv' := [(1, .int z34), (0, .ref 159)]) (st' := [.int ((z47 - ((Int32.ofInt 1)))), .int z44, .ref 160]) rfl ?_
      refine En_top (subI rfl (by decide : (Int32.ofInt 1).toInt = 1) (by first | exact q_93f9478bef h48 | omega) (by first | exact q_5f4a85dce3 h49 | omega)) (fun z54 h55 => ?_)
      refine En_iast (l := 0) (u := 12) rfl rfl tgz_160 (by decide +kernel) (by first | exact q_a578b517ac h45 h43 h41 h35 | omega) (lnI (by decide +kernel : LN _ = 226) (by first | exact q_f266bffb3f h45 h43 h41 h36 | omega)) (FTrow 36 12 4 4 (by decide +kernel) (by first | exact q_25a2632096 h45 h43 h41 h35 | omega) (by first | exact q_6a14783eb1 h45 h43 h41 h36 | omega) (by first | exact q_29bc46c6fe h41 h43 h45 | omega)) (rngI rfl (by (first | exact q_00529e3716 h55 h53 | omega)) (by first | exact q_0f6bf0cdc4 h55 h49 | omega)) h26 h27 (by decide +kernel) (fun σ56 h57 h58 h59 h60 => ?_)
      refine En_Ps 1 (pc' := 69) (lv' := [(1, .int z34), (0, .ref 159)]) (st' := [.int z34]) rfl ?_
      exact En_ret (v := some (Value.int z34)) rfl rfl rfl ⟨h57, h58, z34, rfl, ⟨by first | exact q_885c998ca8 h35 | omega, by first | exact q_e9a8eec0c4 h36 | omega, ⟨WINV_unteach2 (d := z34.toInt) (m := z54.toInt + 1) (nt := z23.toInt + 1) hI (fun i hi => (by rw [show wf _ i = ci _ 160 i from rfl, ci_st h59 h60 (by (first | exact q_a578b517ac h45 h43 h41 h35 | omega)) i hi, ci_st h28 h29 (by (first | decide | omega)) i hi]; rfl)) (by show _ = ci _ 160 _; (first | exact q_972c6612ff h55 h52 h51 | omega)) (by have e1 := ci_at h16 (show (6 : Int) = (6 : Int) by (first | decide | omega)); show _ = ci _ 160 _; (first | exact q_a10a85d7da e1 h24 | omega)) (by (first | exact q_b63492755d h21 h18 h24 | omega)) (by show _ = ci _ 160 _; rw [show (166 : Int) + ((z23.toInt + 1) - 1) = z31.toInt by (first | exact q_08873226a4 h32 | omega)]; (first | exact q_aeeede310e h38 h37 | omega)) (by (first | exact q_58e6e51dcc h35 | omega)) (by (first | exact q_718bc96520 h36 | omega)) (by (first | decide | omega)) (by (first | exact q_fedd7637cc h45 h43 h41 | omega)) (by (first | exact q_b8472f8229 | omega)) (by (first | exact q_b8472f8229 | omega)), by unfold utR utD; rw [if_neg (by (first | exact q_fb5266371a h10.2.2.1 h13 h10.1 w12 | omega)), if_neg (by (first | exact q_e1f15da704 h21 h18 w20 | omega)), show wf σ0 6 = z23.toInt + 1 from Eq.symm (by have e1 := ci_at h16 (show (6 : Int) = (6 : Int) by (first | decide | omega)); show _ = ci _ 160 _; (first | exact q_a10a85d7da e1 h24 | omega))]; exact (by show _ = ci _ 160 _; rw [show (166 : Int) + ((z23.toInt + 1) - 1) = z31.toInt by (first | exact q_08873226a4 h32 | omega)]; (first | exact q_aeeede310e h38 h37 | omega)), utM (d := z34.toInt) (m := z54.toInt + 1) (nt := z23.toInt + 1) (fun i hi => (by rw [show wf _ i = ci _ 160 i from rfl, ci_st h59 h60 (by (first | exact q_a578b517ac h45 h43 h41 h35 | omega)) i hi, ci_st h28 h29 (by (first | decide | omega)) i hi]; rfl)) (by (first | exact q_f3e1c62af3 h10.2.2.1 h13 h10.1 w12 | omega)) (by show _ = ci _ 160 _; (first | exact q_972c6612ff h55 h52 h51 | omega)) (by have e1 := ci_at h16 (show (6 : Int) = (6 : Int) by (first | decide | omega)); show _ = ci _ 160 _; (first | exact q_a10a85d7da e1 h24 | omega)) (by (first | exact q_b63492755d h21 h18 h24 | omega)) (by show _ = ci _ 160 _; rw [show (166 : Int) + ((z23.toInt + 1) - 1) = z31.toInt by (first | exact q_08873226a4 h32 | omega)]; (first | exact q_aeeede310e h38 h37 | omega)) (by (first | decide | omega)) (by (first | exact q_fedd7637cc h45 h43 h41 | omega)) (by (first | exact q_b8472f8229 | omega)) (by (first | exact q_b8472f8229 | omega))⟩⟩⟩
    · refine En_Ps 1 (pc' := 22) (lv' := [(0, .ref 159)]) (st' := [.int (((Int8.ofInt (-5)).toInt32))]) rfl ?_
      refine En_top (by decide : ((Int8.ofInt (-5)).toInt32).toInt = -5) (fun z61 h62 => ?_)
      exact En_ret (v := some (Value.int z61)) rfl rfl rfl ⟨hσ0, hF0, z61, rfl, ⟨by first | exact q_715ce6bb90 h62 | omega, by first | exact q_08e77983b4 h62 | omega, ⟨hI, by unfold utR; rw [if_neg (by (first | exact q_fb5266371a h10.2.2.1 h13 h10.1 w12 | omega)), if_pos (by (first | exact q_857e4f1c1c w20 h21 | omega))]; (first | exact q_93e8fcdef2 h62 | omega), utMn (by (first | exact q_b716058e8d w20 h21 | omega)) (fun i _ _ => rfl)⟩⟩⟩
  · refine En_Ps 1 (pc' := 9) (lv' := [(0, .ref 159)]) (st' := [.int (((Int8.ofInt (-2)).toInt32))]) rfl ?_
    refine En_top (by decide : ((Int8.ofInt (-2)).toInt32).toInt = -2) (fun z63 h64 => ?_)
    exact En_ret (v := some (Value.int z63)) rfl rfl rfl ⟨hσ0, hF0, z63, rfl, ⟨by first | exact q_f1982a04c6 h64 | omega, by first | exact q_09eb541a79 h64 | omega, ⟨hI, by unfold utR; rw [if_pos (by (first | exact q_b87706a97b h10.2.2.2 h13 w12 | omega))]; (first | exact q_a664922815 h64 | omega), utMn (by (first | exact q_105a466342 h10.2.2.2 h13 w12 | omega)) (fun i _ _ => rfl)⟩⟩⟩
/-- DoorSchoolModel.way(II)I -/
abbrev P_330x (σ0 : SG) (a : Int32) (b : Int32) : PO := fun v σ => WT σ ∧ Fr [(35, 18), (35, 21), (42, 0), (43, 0), (44, 0), (45, 0), (46, 0)] σ0 σ ∧ ∃ ret : Int32, v = some (Value.int ret) ∧ -ret.toInt - 2 ≤ 0 ∧ ret.toInt - 1000000 ≤ 0 ∧ ret.toInt = wyR (wf σ0) a.toInt b.toInt
set_option maxRecDepth 10000 in
set_option maxHeartbeats 4000000 in
theorem c_330x (σ0 : SG) (hσ0 : WT σ0) (a : Int32) (b : Int32) (hq : QX (wf σ0)) : En 5 113 none mr_330 (P_330x σ0 a b) 0 [(0, .ref 159), (1, .int a), (2, .int b)] [] σ0 := by
  have hF0 : Fr [(35, 18), (35, 21), (42, 0), (43, 0), (44, 0), (45, 0), (46, 0)] σ0 σ0 := Fr_rfl
  refine En_Ps 2 (pc' := 2) (lv' := [(0, .ref 159), (1, .int a), (2, .int b)]) (st' := [.int a, .ref 159]) rfl ?_
  obtain ⟨z2, h1, h3, h4⟩ := WT_peekI hσ0 tgz_160 (by decide +kernel : FT 36 (2 : Int).toNat = (0, 0, 4)) (by decide +kernel)
  refine En_callV rfl rfl rfl rfl rfl rfl rfl rfl tgz_159 (by decide +kernel) rfl (c_254 σ0 hσ0 a z2 h1) (by decide) (by decide) (fun v6 σ7 h5 => ?_)
  obtain ⟨h8, h9, z11, rfl, h10⟩ := h5
  obtain rfl : σ0 = σ7 := Fr_nil h9
  have w12 : wf σ0 (2) = z2.toInt := ci_at h1 (by omega)
  refine En_iEq _ rfl rfl (fun h13 => ?_) (fun h13 => ?_)
  · refine En_Ps 1 (pc' := 20) (lv' := [(0, .ref 159), (1, .int a), (2, .int b)]) (st' := [.int (((Int8.ofInt (-2)).toInt32))]) rfl ?_
    refine En_top (by decide : ((Int8.ofInt (-2)).toInt32).toInt = -2) (fun z14 h15 => ?_)
    exact En_ret (v := some (Value.int z14)) rfl rfl rfl ⟨hσ0, hF0, z14, rfl, ⟨by first | exact q_f35c5d346c h15 | omega, by first | exact q_ec7b2e0fd8 h15 | omega, wyR_n (fun ⟨q1, q2, q3, q4⟩ => by omega) (by omega)⟩⟩
  · refine En_Ps 4 (pc' := 12) (lv' := [(0, .ref 159), (1, .int a), (2, .int b)]) (st' := [.long ((Int64.ofNat 1)), .long ((Int64.ofNat 0)), .long b.toInt64]) rfl ?_
    have : b.toInt64.toInt = b.toInt := (i2lI rfl)
    have := (by decide : ((Int64.ofNat 0)).toInt = 0)
    have := (by decide : ((Int64.ofNat 1)).toInt = 1)
    refine En_callS rfl rfl rfl rfl rfl rfl rfl rfl rfl (c_249 σ0 hσ0 b.toInt64 ((Int64.ofNat 0)) ((Int64.ofNat 1))) (by decide) (by decide) (fun v17 σ18 h16 => ?_)
    obtain ⟨h19, h20, z22, rfl, h21⟩ := h16
    obtain rfl : σ0 = σ18 := Fr_nil h20
    refine En_iNe _ rfl rfl (fun h23 => ?_) (fun h23 => ?_)
    · obtain ⟨z25, h24, h26, h27⟩ := WT_peekI hσ0 tgz_160 (by decide +kernel : FT 36 (0 : Int).toNat = (0, 0, 4)) (by decide +kernel)
      obtain ⟨z29, h28, h30, h31⟩ := WT_peekI hσ0 tgz_160 (by decide +kernel : FT 36 (7 : Int).toNat = (0, 0, 1600)) (by decide +kernel)
      have w32 : wf σ0 (0) = z25.toInt := ci_at h24 (by omega)
      have w33 : wf σ0 (7) = z29.toInt := ci_at h28 (by omega)
      have h34 : 1 ≤ z29.toInt := by have e9 := hq (by omega); omega
      have h35 := pI_rng (s := z25.toInt) (by omega) (by omega)
      have h36 := (kI_val z29.toInt z25.toInt).2 (by omega)
      have h37 : pI (wf σ0 0) = pI (z25.toInt) := by rw [w32]
      have wq0 : wf σ0 = wf σ0 := rfl
      refine En_Ps 6 (pc' := 31) (lv' := [(5, .int ((Int32.ofInt 0))), (4, .int ((1000000 : Int32))), (3, .int ((Int32.ofInt 0))), (0, .ref 159), (1, .int a), (2, .int b)]) (st' := []) rfl ?_
      have key31 : ∀ (n31 : Nat) (σ41 : SG) (y38 : Int32) (y39 : Int32) (y40 : Int32), WT σ41 → Fr [(35, 18), (35, 21), (42, 0), (43, 0), (44, 0), (45, 0), (46, 0)] σ0 σ41 → (σ41 160)[(2 : Int).toNat]? = some (Value.int z2) → (σ41 160)[(0 : Int).toNat]? = some (Value.int z25) → (σ41 160)[(7 : Int).toNat]? = some (Value.int z29) → 0 ≤ y38.toInt → y38.toInt ≤ 2 → 0 ≤ y39.toInt → y39.toInt ≤ 1000000 → 0 ≤ y40.toInt → y40.toInt ≤ 3 → y38.toInt - y40.toInt ≤ 0 → -y40.toInt + 3 < (n31 : Int) → WYI (wf σ0) a.toInt y40.toInt y38.toInt y39.toInt 1000000 → wf σ41 = wf σ0 → En 5 113 none mr_330 (P_330x σ0 a b) 31 [(0, .ref 159), (1, .int a), (2, .int b), (3, .int y38), (4, .int y39), (5, .int y40)] [] σ41 := by
        intro n31
        induction n31 with
        | zero =>
          intro σ41 y38 y39 y40 h42 h43 h44 h45 h46 h47 h48 h49 h50 h51 h52 h53 h54 h55 h56
          first | exact (q_9f1e7068c9 h54 h52).elim | (exfalso; omega)
        | succ n31 ih31 =>
          intro σ41 y38 y39 y40 h42 h43 h44 h45 h46 h47 h48 h49 h50 h51 h52 h53 h54 h55 h56
          refine En_Ps 2 (pc' := 34) (lv' := [(0, .ref 159), (1, .int a), (2, .int b), (3, .int y38), (4, .int y39), (5, .int y40)]) (st' := [.int ((Int32.ofInt 3)), .int y40]) rfl ?_
          refine En_icGe _ rfl (by decide : (Int32.ofInt 3).toInt = 3) rfl (fun h57 => ?_) (fun h57 => ?_)
          · refine En_Ps 1 (pc' := 78) (lv' := [(0, .ref 159), (1, .int a), (2, .int b), (3, .int y38), (4, .int y39), (5, .int y40)]) (st' := [.int b]) rfl ?_
            refine En_iNe _ rfl rfl (fun h58 => ?_) (fun h58 => ?_)
            · refine En_Ps 1 (pc' := 87) (lv' := [(0, .ref 159), (1, .int a), (2, .int b), (3, .int y38), (4, .int y39), (5, .int y40)]) (st' := [.int y39]) rfl ?_
              exact En_ret (v := some (Value.int y39)) rfl rfl rfl ⟨h42, h43, y39, rfl, ⟨by first | exact q_ea7f0ffdb1 h49 | omega, by first | exact q_b319b3558a h50 | omega, (by first | exact wyR_0 ⟨by omega, by omega, by omega, by omega⟩ (by omega) h55 (by omega) (by omega) | exact wyR_1 ⟨by omega, by omega, by omega, by omega⟩ (by omega) h55 (by omega) (by omega))⟩⟩
            · refine En_Ps 2 (pc' := 87) (lv' := [(0, .ref 159), (1, .int a), (2, .int b), (3, .int y38), (4, .int y39), (5, .int y40)]) (st' := [.int y38]) rfl ?_
              exact En_ret (v := some (Value.int y38)) rfl rfl rfl ⟨h42, h43, y38, rfl, ⟨by first | exact q_ea7f0ffdb1 h47 | omega, by first | exact q_4c87331f73 h48 | omega, (by first | exact wyR_0 ⟨by omega, by omega, by omega, by omega⟩ (by omega) h55 (by omega) (by omega) | exact wyR_1 ⟨by omega, by omega, by omega, by omega⟩ (by omega) h55 (by omega) (by omega))⟩⟩
          · refine En_Ps 3 (pc' := 41) (lv' := [(0, .ref 159), (1, .int a), (2, .int b), (3, .int y38), (4, .int y39), (5, .int y40)]) (st' := [.int y40, .int a, .ref 159]) rfl ?_
            refine En_callV rfl rfl rfl rfl rfl rfl rfl rfl tgz_159 (by decide +kernel) rfl (c_211x σ41 h42 a y40 (geI rfl (by omega)) (leI rfl (by omega)) (geI rfl (by first | exact q_58e6e51dcc h51 | omega)) (leI rfl (by first | exact q_f1519f12c0 h57 | omega)) z25 h45 z29 h46 (by omega)) (by decide) (by decide) (fun v60 σ61 h59 => ?_)
            obtain ⟨h62, h63, z65, rfl, h64⟩ := h59
            have h66 := h64.2.2
            have h67 := Fr_trans h43 h63 (by decide +kernel)
            have h68 : wf σ61 = wf σ0 := (wf_fr h63 (by decide +kernel)).trans h56
            have h69 : z65.toInt = WDw (wf σ0) a.toInt y40.toInt := by rw [← h56]; exact h66
            refine En_Ps 1 (pc' := 45) (lv' := [(0, .ref 159), (1, .int a), (2, .int b), (3, .int y38), (4, .int y39), (5, .int y40)]) (st' := [.ref 159, .int z65]) rfl ?_
            refine En_callV rfl rfl rfl rfl rfl rfl rfl rfl tgz_159 (by decide +kernel) rfl (c_295x σ61 h62 z25 ((h63 _ _ (inWa tgz_160 (by decide +kernel))).trans h45) z29 ((h63 _ _ (inWa tgz_160 (by decide +kernel))).trans h46) (by omega)) (by decide) (by decide) (fun v71 σ72 h70 => ?_)
            obtain ⟨h73, h74, z76, rfl, h75⟩ := h70
            have h77 := h75.2.2
            obtain rfl : σ61 = σ72 := Fr_nil h74
            refine En_Ps 1 (pc' := 49) (lv' := [(0, .ref 159), (1, .int a), (2, .int b), (3, .int y38), (4, .int y39), (5, .int y40)]) (st' := [.int ((z65 ^^^ z76))]) rfl ?_
            refine En_nam (fun z78 h79 => ?_)
            have h80 : z78.toInt = xN z65.toInt z76.toInt := xor_v h79 rfl rfl (by omega) (by omega)
            have := xN_lt (X := z65.toInt) (Y := z76.toInt) 16 (by omega) (by omega) (Int.lt_of_le_of_lt (by omega : _ ≤ (65535 : Int)) (by decide)) (Int.lt_of_le_of_lt (by omega : _ ≤ (65535 : Int)) (by decide))
            have two16 : ((2 ^ 16 : Nat) : Int) = 65536 := by decide
            refine En_callS rfl rfl rfl rfl rfl rfl rfl rfl rfl (c_203bx σ61 h62 z78 (geI rfl (by omega)) (leI rfl (by omega))) (by decide) (by decide) (fun v82 σ83 h81 => ?_)
            obtain ⟨h84, h85, z87, rfl, h86⟩ := h81
            have h88 := h86.2.2
            obtain rfl : σ61 = σ83 := Fr_nil h85
            refine En_Ps 3 (pc' := 58) (lv' := [(6, .int z87), (0, .ref 159), (1, .int a), (2, .int b), (3, .int y38), (4, .int y39), (5, .int y40)]) (st' := [.int y39, .int z87]) rfl ?_
            refine En_icLt _ rfl rfl rfl (fun h89 => ?_) (fun h89 => ?_)
            · refine En_Ps 5 (pc' := 74) (lv' := [(5, .int ((y40 + Int32.ofInt 1))), (3, .int y40), (4, .int z87), (6, .int z87), (0, .ref 159), (1, .int a), (2, .int b)]) (st' := []) rfl ?_
              refine En_lv1 (addI rfl (by decide : (Int32.ofInt 1).toInt = 1) (by first | exact q_465ab79ac1 h51 | omega) (by first | exact q_6ae830b01d h57 | omega)) (fun z90 h91 => ?_)
              refine En_Ps 1 (pc' := 31) (lv' := [(5, .int z90), (3, .int y40), (4, .int z87), (6, .int z87), (0, .ref 159), (1, .int a), (2, .int b)]) (st' := []) rfl ?_
              refine En_lv (lv := [(0, .ref 159), (1, .int a), (2, .int b), (3, .int y40), (4, .int z87), (5, .int z90)]) ⟨rfl, rfl, rfl, rfl, rfl, rfl, trivial⟩ ?_
              exact ih31 σ61 y40 z87 z90 h62 h67 ((h63 _ _ (inWa tgz_160 (by decide +kernel))).trans h44) ((h63 _ _ (inWa tgz_160 (by decide +kernel))).trans h45) ((h63 _ _ (inWa tgz_160 (by decide +kernel))).trans h46) (by first | exact q_58e6e51dcc h51 | omega) (by first | exact q_f1519f12c0 h57 | omega) (by first | exact q_ef1e8e38bf h86.1 | omega) (by first | exact q_d3368acf29 h86.2.1 | omega) (by first | exact q_35104ce9d3 h91 h51 | omega) (by first | exact q_84805d5d8e h91 h57 | omega) (by first | exact q_6133d71490 h91 | omega) (by first | exact q_6272716eb4 h91 h54 | omega) ((by first | exact WYI_y h55 (by omega) (wyU_of h69 (h77.trans (owD_cg h68)) (z := z78.toInt) (by omega) h88) (by omega) (by omega) (by omega) (by omega) | exact WYI_n h55 (by decide) (by omega) (wyU_of h69 (h77.trans (owD_cg h68)) (z := z78.toInt) (by omega) h88) (by omega) (by omega) (by omega) (by omega))) (h68)
            · refine En_Ps 2 (pc' := 74) (lv' := [(5, .int ((y40 + Int32.ofInt 1))), (6, .int z87), (0, .ref 159), (1, .int a), (2, .int b), (3, .int y38), (4, .int y39)]) (st' := []) rfl ?_
              refine En_lv1 (addI rfl (by decide : (Int32.ofInt 1).toInt = 1) (by first | exact q_465ab79ac1 h51 | omega) (by first | exact q_6ae830b01d h57 | omega)) (fun z92 h93 => ?_)
              refine En_Ps 1 (pc' := 31) (lv' := [(5, .int z92), (6, .int z87), (0, .ref 159), (1, .int a), (2, .int b), (3, .int y38), (4, .int y39)]) (st' := []) rfl ?_
              refine En_lv (lv := [(0, .ref 159), (1, .int a), (2, .int b), (3, .int y38), (4, .int y39), (5, .int z92)]) ⟨rfl, rfl, rfl, rfl, rfl, rfl, trivial⟩ ?_
              exact ih31 σ61 y38 y39 z92 h62 h67 ((h63 _ _ (inWa tgz_160 (by decide +kernel))).trans h44) ((h63 _ _ (inWa tgz_160 (by decide +kernel))).trans h45) ((h63 _ _ (inWa tgz_160 (by decide +kernel))).trans h46) (by first | exact q_58e6e51dcc h47 | omega) (by first | exact q_a85463bd0d h48 | omega) (by first | exact q_58e6e51dcc h49 | omega) (by first | exact q_2507c1a77a h50 | omega) (by first | exact q_35104ce9d3 h93 h51 | omega) (by first | exact q_84805d5d8e h93 h57 | omega) (by first | exact q_3a5e225620 h53 h93 | omega) (by first | exact q_6272716eb4 h93 h54 | omega) ((by first | exact WYI_y h55 (by omega) (wyU_of h69 (h77.trans (owD_cg h68)) (z := z78.toInt) (by omega) h88) (by omega) (by omega) (by omega) (by omega) | exact WYI_n h55 (by decide) (by omega) (wyU_of h69 (h77.trans (owD_cg h68)) (z := z78.toInt) (by omega) h88) (by omega) (by omega) (by omega) (by omega))) (h68)
      have := (by decide : (Int32.ofInt 0).toInt = 0)
      have := (by decide : (1000000 : Int32).toInt = 1000000)
      have := (by decide : (Int32.ofInt 0).toInt = 0)
      refine En_lv (lv := [(0, .ref 159), (1, .int a), (2, .int b), (3, .int ((Int32.ofInt 0))), (4, .int ((1000000 : Int32))), (5, .int ((Int32.ofInt 0)))]) ⟨rfl, rfl, rfl, rfl, rfl, rfl, trivial⟩ ?_
      exact key31 (Int.toNat (3) + 1) σ0 ((Int32.ofInt 0)) ((1000000 : Int32)) ((Int32.ofInt 0)) hσ0 hF0 h1 h24 h28 (by decide) (by decide) (by decide) (by decide) (by decide) (by decide) (by omega) (by first | exact toN_lt _ | omega) (WYI_0 (by omega) (by omega)) (wq0)
    · refine En_Ps 1 (pc' := 20) (lv' := [(0, .ref 159), (1, .int a), (2, .int b)]) (st' := [.int (((Int8.ofInt (-2)).toInt32))]) rfl ?_
      refine En_top (by decide : ((Int8.ofInt (-2)).toInt32).toInt = -2) (fun z94 h95 => ?_)
      exact En_ret (v := some (Value.int z94)) rfl rfl rfl ⟨hσ0, hF0, z94, rfl, ⟨by first | exact q_f35c5d346c h95 | omega, by first | exact q_ec7b2e0fd8 h95 | omega, wyR_n (fun ⟨q1, q2, q3, q4⟩ => by omega) (by omega)⟩⟩
end
/-! 32.n00 -/
section
/-- java/lang/Integer.bitCount(I)I of a small set -/
abbrev P_7ax (σ0 : SG) (a : Int32) : PO := fun v σ => WT σ ∧ Fr [] σ0 σ ∧ ∃ ret : Int32, v = some (Value.int ret) ∧ -ret.toInt ≤ 0 ∧ ret.toInt - 4 ≤ 0 ∧ ret.toInt = bcI a.toInt
set_option maxRecDepth 10000 in
set_option maxHeartbeats 4000000 in
theorem c_7ax (σ0 : SG) (hσ0 : WT σ0) (a : Int32) (hl_a : 0 ≤ a.toInt) (hu_a : a.toInt ≤ 15) : En 0 0 none mr_7 (P_7ax σ0 a) 0 [(0, .int a)] [] σ0 := by
  have hF0 : Fr [] σ0 σ0 := Fr_rfl
  refine En_Ps 41 (pc' := 52) (lv' := [(0, .int ((((((((a - (((a.toUInt32 >>> ((Int32.ofInt 1).toUInt32 &&& Int32.toUInt32 31)).toInt32) &&& (1431655765 : Int32))) &&& (858993459 : Int32)) + ((((a - (((a.toUInt32 >>> ((Int32.ofInt 1).toUInt32 &&& Int32.toUInt32 31)).toInt32) &&& (1431655765 : Int32))).toUInt32 >>> ((Int32.ofInt 2).toUInt32 &&& Int32.toUInt32 31)).toInt32) &&& (858993459 : Int32))) + (((((a - (((a.toUInt32 >>> ((Int32.ofInt 1).toUInt32 &&& Int32.toUInt32 31)).toInt32) &&& (1431655765 : Int32))) &&& (858993459 : Int32)) + ((((a - (((a.toUInt32 >>> ((Int32.ofInt 1).toUInt32 &&& Int32.toUInt32 31)).toInt32) &&& (1431655765 : Int32))).toUInt32 >>> ((Int32.ofInt 2).toUInt32 &&& Int32.toUInt32 31)).toInt32) &&& (858993459 : Int32))).toUInt32 >>> ((Int32.ofInt 4).toUInt32 &&& Int32.toUInt32 31)).toInt32)) &&& (252645135 : Int32)) + (((((((a - (((a.toUInt32 >>> ((Int32.ofInt 1).toUInt32 &&& Int32.toUInt32 31)).toInt32) &&& (1431655765 : Int32))) &&& (858993459 : Int32)) + ((((a - (((a.toUInt32 >>> ((Int32.ofInt 1).toUInt32 &&& Int32.toUInt32 31)).toInt32) &&& (1431655765 : Int32))).toUInt32 >>> ((Int32.ofInt 2).toUInt32 &&& Int32.toUInt32 31)).toInt32) &&& (858993459 : Int32))) + (((((a - (((a.toUInt32 >>> ((Int32.ofInt 1).toUInt32 &&& Int32.toUInt32 31)).toInt32) &&& (1431655765 : Int32))) &&& (858993459 : Int32)) + ((((a - (((a.toUInt32 >>> ((Int32.ofInt 1).toUInt32 &&& Int32.toUInt32 31)).toInt32) &&& (1431655765 : Int32))).toUInt32 >>> ((Int32.ofInt 2).toUInt32 &&& Int32.toUInt32 31)).toInt32) &&& (858993459 : Int32))).toUInt32 >>> ((Int32.ofInt 4).toUInt32 &&& Int32.toUInt32 31)).toInt32)) &&& (252645135 : Int32)).toUInt32 >>> (((Int8.ofInt 8).toInt32).toUInt32 &&& Int32.toUInt32 31)).toInt32)) + ((((((((a - (((a.toUInt32 >>> ((Int32.ofInt 1).toUInt32 &&& Int32.toUInt32 31)).toInt32) &&& (1431655765 : Int32))) &&& (858993459 : Int32)) + ((((a - (((a.toUInt32 >>> ((Int32.ofInt 1).toUInt32 &&& Int32.toUInt32 31)).toInt32) &&& (1431655765 : Int32))).toUInt32 >>> ((Int32.ofInt 2).toUInt32 &&& Int32.toUInt32 31)).toInt32) &&& (858993459 : Int32))) + (((((a - (((a.toUInt32 >>> ((Int32.ofInt 1).toUInt32 &&& Int32.toUInt32 31)).toInt32) &&& (1431655765 : Int32))) &&& (858993459 : Int32)) + ((((a - (((a.toUInt32 >>> ((Int32.ofInt 1).toUInt32 &&& Int32.toUInt32 31)).toInt32) &&& (1431655765 : Int32))).toUInt32 >>> ((Int32.ofInt 2).toUInt32 &&& Int32.toUInt32 31)).toInt32) &&& (858993459 : Int32))).toUInt32 >>> ((Int32.ofInt 4).toUInt32 &&& Int32.toUInt32 31)).toInt32)) &&& (252645135 : Int32)) + (((((((a - (((a.toUInt32 >>> ((Int32.ofInt 1).toUInt32 &&& Int32.toUInt32 31)).toInt32) &&& (1431655765 : Int32))) &&& (858993459 : Int32)) + ((((a - (((a.toUInt32 >>> ((Int32.ofInt 1).toUInt32 &&& Int32.toUInt32 31)).toInt32) &&& (1431655765 : Int32))).toUInt32 >>> ((Int32.ofInt 2).toUInt32 &&& Int32.toUInt32 31)).toInt32) &&& (858993459 : Int32))) + (((((a - (((a.toUInt32 >>> ((Int32.ofInt 1).toUInt32 &&& Int32.toUInt32 31)).toInt32) &&& (1431655765 : Int32))) &&& (858993459 : Int32)) + ((((a - (((a.toUInt32 >>> ((Int32.ofInt 1).toUInt32 &&& Int32.toUInt32 31)).toInt32) &&& (1431655765 : Int32))).toUInt32 >>> ((Int32.ofInt 2).toUInt32 &&& Int32.toUInt32 31)).toInt32) &&& (858993459 : Int32))).toUInt32 >>> ((Int32.ofInt 4).toUInt32 &&& Int32.toUInt32 31)).toInt32)) &&& (252645135 : Int32)).toUInt32 >>> (((Int8.ofInt 8).toInt32).toUInt32 &&& Int32.toUInt32 31)).toInt32)).toUInt32 >>> (((Int8.ofInt 16).toInt32).toUInt32 &&& Int32.toUInt32 31)).toInt32))))]) (st' := [.int (((((((((a - (((a.toUInt32 >>> ((Int32.ofInt 1).toUInt32 &&& Int32.toUInt32 31)).toInt32) &&& (1431655765 : Int32))) &&& (858993459 : Int32)) + ((((a - (((a.toUInt32 >>> ((Int32.ofInt 1).toUInt32 &&& Int32.toUInt32 31)).toInt32) &&& (1431655765 : Int32))).toUInt32 >>> ((Int32.ofInt 2).toUInt32 &&& Int32.toUInt32 31)).toInt32) &&& (858993459 : Int32))) + (((((a - (((a.toUInt32 >>> ((Int32.ofInt 1).toUInt32 &&& Int32.toUInt32 31)).toInt32) &&& (1431655765 : Int32))) &&& (858993459 : Int32)) + ((((a - (((a.toUInt32 >>> ((Int32.ofInt 1).toUInt32 &&& Int32.toUInt32 31)).toInt32) &&& (1431655765 : Int32))).toUInt32 >>> ((Int32.ofInt 2).toUInt32 &&& Int32.toUInt32 31)).toInt32) &&& (858993459 : Int32))).toUInt32 >>> ((Int32.ofInt 4).toUInt32 &&& Int32.toUInt32 31)).toInt32)) &&& (252645135 : Int32)) + (((((((a - (((a.toUInt32 >>> ((Int32.ofInt 1).toUInt32 &&& Int32.toUInt32 31)).toInt32) &&& (1431655765 : Int32))) &&& (858993459 : Int32)) + ((((a - (((a.toUInt32 >>> ((Int32.ofInt 1).toUInt32 &&& Int32.toUInt32 31)).toInt32) &&& (1431655765 : Int32))).toUInt32 >>> ((Int32.ofInt 2).toUInt32 &&& Int32.toUInt32 31)).toInt32) &&& (858993459 : Int32))) + (((((a - (((a.toUInt32 >>> ((Int32.ofInt 1).toUInt32 &&& Int32.toUInt32 31)).toInt32) &&& (1431655765 : Int32))) &&& (858993459 : Int32)) + ((((a - (((a.toUInt32 >>> ((Int32.ofInt 1).toUInt32 &&& Int32.toUInt32 31)).toInt32) &&& (1431655765 : Int32))).toUInt32 >>> ((Int32.ofInt 2).toUInt32 &&& Int32.toUInt32 31)).toInt32) &&& (858993459 : Int32))).toUInt32 >>> ((Int32.ofInt 4).toUInt32 &&& Int32.toUInt32 31)).toInt32)) &&& (252645135 : Int32)).toUInt32 >>> (((Int8.ofInt 8).toInt32).toUInt32 &&& Int32.toUInt32 31)).toInt32)) + ((((((((a - (((a.toUInt32 >>> ((Int32.ofInt 1).toUInt32 &&& Int32.toUInt32 31)).toInt32) &&& (1431655765 : Int32))) &&& (858993459 : Int32)) + ((((a - (((a.toUInt32 >>> ((Int32.ofInt 1).toUInt32 &&& Int32.toUInt32 31)).toInt32) &&& (1431655765 : Int32))).toUInt32 >>> ((Int32.ofInt 2).toUInt32 &&& Int32.toUInt32 31)).toInt32) &&& (858993459 : Int32))) + (((((a - (((a.toUInt32 >>> ((Int32.ofInt 1).toUInt32 &&& Int32.toUInt32 31)).toInt32) &&& (1431655765 : Int32))) &&& (858993459 : Int32)) + ((((a - (((a.toUInt32 >>> ((Int32.ofInt 1).toUInt32 &&& Int32.toUInt32 31)).toInt32) &&& (1431655765 : Int32))).toUInt32 >>> ((Int32.ofInt 2).toUInt32 &&& Int32.toUInt32 31)).toInt32) &&& (858993459 : Int32))).toUInt32 >>> ((Int32.ofInt 4).toUInt32 &&& Int32.toUInt32 31)).toInt32)) &&& (252645135 : Int32)) + (((((((a - (((a.toUInt32 >>> ((Int32.ofInt 1).toUInt32 &&& Int32.toUInt32 31)).toInt32) &&& (1431655765 : Int32))) &&& (858993459 : Int32)) + ((((a - (((a.toUInt32 >>> ((Int32.ofInt 1).toUInt32 &&& Int32.toUInt32 31)).toInt32) &&& (1431655765 : Int32))).toUInt32 >>> ((Int32.ofInt 2).toUInt32 &&& Int32.toUInt32 31)).toInt32) &&& (858993459 : Int32))) + (((((a - (((a.toUInt32 >>> ((Int32.ofInt 1).toUInt32 &&& Int32.toUInt32 31)).toInt32) &&& (1431655765 : Int32))) &&& (858993459 : Int32)) + ((((a - (((a.toUInt32 >>> ((Int32.ofInt 1).toUInt32 &&& Int32.toUInt32 31)).toInt32) &&& (1431655765 : Int32))).toUInt32 >>> ((Int32.ofInt 2).toUInt32 &&& Int32.toUInt32 31)).toInt32) &&& (858993459 : Int32))).toUInt32 >>> ((Int32.ofInt 4).toUInt32 &&& Int32.toUInt32 31)).toInt32)) &&& (252645135 : Int32)).toUInt32 >>> (((Int8.ofInt 8).toInt32).toUInt32 &&& Int32.toUInt32 31)).toInt32)).toUInt32 >>> (((Int8.ofInt 16).toInt32).toUInt32 &&& Int32.toUInt32 31)).toInt32)) &&& ((Int8.ofInt 63).toInt32)))]) rfl ?_
  refine En_nam (fun z hz => ?_)
  have hb := bits_small (fun x => ((((((((x - (((x.toUInt32 >>> ((Int32.ofInt 1).toUInt32 &&& Int32.toUInt32 31)).toInt32) &&& (1431655765 : Int32))) &&& (858993459 : Int32)) + ((((x - (((x.toUInt32 >>> ((Int32.ofInt 1).toUInt32 &&& Int32.toUInt32 31)).toInt32) &&& (1431655765 : Int32))).toUInt32 >>> ((Int32.ofInt 2).toUInt32 &&& Int32.toUInt32 31)).toInt32) &&& (858993459 : Int32))) + (((((x - (((x.toUInt32 >>> ((Int32.ofInt 1).toUInt32 &&& Int32.toUInt32 31)).toInt32) &&& (1431655765 : Int32))) &&& (858993459 : Int32)) + ((((x - (((x.toUInt32 >>> ((Int32.ofInt 1).toUInt32 &&& Int32.toUInt32 31)).toInt32) &&& (1431655765 : Int32))).toUInt32 >>> ((Int32.ofInt 2).toUInt32 &&& Int32.toUInt32 31)).toInt32) &&& (858993459 : Int32))).toUInt32 >>> ((Int32.ofInt 4).toUInt32 &&& Int32.toUInt32 31)).toInt32)) &&& (252645135 : Int32)) + (((((((x - (((x.toUInt32 >>> ((Int32.ofInt 1).toUInt32 &&& Int32.toUInt32 31)).toInt32) &&& (1431655765 : Int32))) &&& (858993459 : Int32)) + ((((x - (((x.toUInt32 >>> ((Int32.ofInt 1).toUInt32 &&& Int32.toUInt32 31)).toInt32) &&& (1431655765 : Int32))).toUInt32 >>> ((Int32.ofInt 2).toUInt32 &&& Int32.toUInt32 31)).toInt32) &&& (858993459 : Int32))) + (((((x - (((x.toUInt32 >>> ((Int32.ofInt 1).toUInt32 &&& Int32.toUInt32 31)).toInt32) &&& (1431655765 : Int32))) &&& (858993459 : Int32)) + ((((x - (((x.toUInt32 >>> ((Int32.ofInt 1).toUInt32 &&& Int32.toUInt32 31)).toInt32) &&& (1431655765 : Int32))).toUInt32 >>> ((Int32.ofInt 2).toUInt32 &&& Int32.toUInt32 31)).toInt32) &&& (858993459 : Int32))).toUInt32 >>> ((Int32.ofInt 4).toUInt32 &&& Int32.toUInt32 31)).toInt32)) &&& (252645135 : Int32)).toUInt32 >>> (((Int8.ofInt 8).toInt32).toUInt32 &&& Int32.toUInt32 31)).toInt32)) + ((((((((x - (((x.toUInt32 >>> ((Int32.ofInt 1).toUInt32 &&& Int32.toUInt32 31)).toInt32) &&& (1431655765 : Int32))) &&& (858993459 : Int32)) + ((((x - (((x.toUInt32 >>> ((Int32.ofInt 1).toUInt32 &&& Int32.toUInt32 31)).toInt32) &&& (1431655765 : Int32))).toUInt32 >>> ((Int32.ofInt 2).toUInt32 &&& Int32.toUInt32 31)).toInt32) &&& (858993459 : Int32))) + (((((x - (((x.toUInt32 >>> ((Int32.ofInt 1).toUInt32 &&& Int32.toUInt32 31)).toInt32) &&& (1431655765 : Int32))) &&& (858993459 : Int32)) + ((((x - (((x.toUInt32 >>> ((Int32.ofInt 1).toUInt32 &&& Int32.toUInt32 31)).toInt32) &&& (1431655765 : Int32))).toUInt32 >>> ((Int32.ofInt 2).toUInt32 &&& Int32.toUInt32 31)).toInt32) &&& (858993459 : Int32))).toUInt32 >>> ((Int32.ofInt 4).toUInt32 &&& Int32.toUInt32 31)).toInt32)) &&& (252645135 : Int32)) + (((((((x - (((x.toUInt32 >>> ((Int32.ofInt 1).toUInt32 &&& Int32.toUInt32 31)).toInt32) &&& (1431655765 : Int32))) &&& (858993459 : Int32)) + ((((x - (((x.toUInt32 >>> ((Int32.ofInt 1).toUInt32 &&& Int32.toUInt32 31)).toInt32) &&& (1431655765 : Int32))).toUInt32 >>> ((Int32.ofInt 2).toUInt32 &&& Int32.toUInt32 31)).toInt32) &&& (858993459 : Int32))) + (((((x - (((x.toUInt32 >>> ((Int32.ofInt 1).toUInt32 &&& Int32.toUInt32 31)).toInt32) &&& (1431655765 : Int32))) &&& (858993459 : Int32)) + ((((x - (((x.toUInt32 >>> ((Int32.ofInt 1).toUInt32 &&& Int32.toUInt32 31)).toInt32) &&& (1431655765 : Int32))).toUInt32 >>> ((Int32.ofInt 2).toUInt32 &&& Int32.toUInt32 31)).toInt32) &&& (858993459 : Int32))).toUInt32 >>> ((Int32.ofInt 4).toUInt32 &&& Int32.toUInt32 31)).toInt32)) &&& (252645135 : Int32)).toUInt32 >>> (((Int8.ofInt 8).toInt32).toUInt32 &&& Int32.toUInt32 31)).toInt32)).toUInt32 >>> (((Int8.ofInt 16).toInt32).toUInt32 &&& Int32.toUInt32 31)).toInt32)) &&& ((Int8.ofInt 63).toInt32))) hz (by decide +kernel) hl_a hu_a
  have hr := bcI_rng a.toInt
  exact En_ret (v := some (Value.int z)) rfl rfl rfl ⟨hσ0, hF0, z, rfl, (by (first | exact q_ce10a64c12 hb hr.1 hr.2 | omega))⟩
/-- java/lang/Integer.bitCount(I)I of a small set -/
abbrev P_7bx (σ0 : SG) (a : Int32) : PO := fun v σ => WT σ ∧ Fr [] σ0 σ ∧ ∃ ret : Int32, v = some (Value.int ret) ∧ -ret.toInt ≤ 0 ∧ ret.toInt - 16 ≤ 0 ∧ ret.toInt = pcI a.toInt
set_option maxRecDepth 10000 in
set_option maxHeartbeats 4000000 in
theorem c_7bx (σ0 : SG) (hσ0 : WT σ0) (a : Int32) (hl_a : 0 ≤ a.toInt) (hu_a : a.toInt ≤ 65535) : En 0 0 none mr_7 (P_7bx σ0 a) 0 [(0, .int a)] [] σ0 := by
  have hF0 : Fr [] σ0 σ0 := Fr_rfl
  refine En_Ps 41 (pc' := 52) (lv' := [(0, .int ((((((((a - (((a.toUInt32 >>> ((Int32.ofInt 1).toUInt32 &&& Int32.toUInt32 31)).toInt32) &&& (1431655765 : Int32))) &&& (858993459 : Int32)) + ((((a - (((a.toUInt32 >>> ((Int32.ofInt 1).toUInt32 &&& Int32.toUInt32 31)).toInt32) &&& (1431655765 : Int32))).toUInt32 >>> ((Int32.ofInt 2).toUInt32 &&& Int32.toUInt32 31)).toInt32) &&& (858993459 : Int32))) + (((((a - (((a.toUInt32 >>> ((Int32.ofInt 1).toUInt32 &&& Int32.toUInt32 31)).toInt32) &&& (1431655765 : Int32))) &&& (858993459 : Int32)) + ((((a - (((a.toUInt32 >>> ((Int32.ofInt 1).toUInt32 &&& Int32.toUInt32 31)).toInt32) &&& (1431655765 : Int32))).toUInt32 >>> ((Int32.ofInt 2).toUInt32 &&& Int32.toUInt32 31)).toInt32) &&& (858993459 : Int32))).toUInt32 >>> ((Int32.ofInt 4).toUInt32 &&& Int32.toUInt32 31)).toInt32)) &&& (252645135 : Int32)) + (((((((a - (((a.toUInt32 >>> ((Int32.ofInt 1).toUInt32 &&& Int32.toUInt32 31)).toInt32) &&& (1431655765 : Int32))) &&& (858993459 : Int32)) + ((((a - (((a.toUInt32 >>> ((Int32.ofInt 1).toUInt32 &&& Int32.toUInt32 31)).toInt32) &&& (1431655765 : Int32))).toUInt32 >>> ((Int32.ofInt 2).toUInt32 &&& Int32.toUInt32 31)).toInt32) &&& (858993459 : Int32))) + (((((a - (((a.toUInt32 >>> ((Int32.ofInt 1).toUInt32 &&& Int32.toUInt32 31)).toInt32) &&& (1431655765 : Int32))) &&& (858993459 : Int32)) + ((((a - (((a.toUInt32 >>> ((Int32.ofInt 1).toUInt32 &&& Int32.toUInt32 31)).toInt32) &&& (1431655765 : Int32))).toUInt32 >>> ((Int32.ofInt 2).toUInt32 &&& Int32.toUInt32 31)).toInt32) &&& (858993459 : Int32))).toUInt32 >>> ((Int32.ofInt 4).toUInt32 &&& Int32.toUInt32 31)).toInt32)) &&& (252645135 : Int32)).toUInt32 >>> (((Int8.ofInt 8).toInt32).toUInt32 &&& Int32.toUInt32 31)).toInt32)) + ((((((((a - (((a.toUInt32 >>> ((Int32.ofInt 1).toUInt32 &&& Int32.toUInt32 31)).toInt32) &&& (1431655765 : Int32))) &&& (858993459 : Int32)) + ((((a - (((a.toUInt32 >>> ((Int32.ofInt 1).toUInt32 &&& Int32.toUInt32 31)).toInt32) &&& (1431655765 : Int32))).toUInt32 >>> ((Int32.ofInt 2).toUInt32 &&& Int32.toUInt32 31)).toInt32) &&& (858993459 : Int32))) + (((((a - (((a.toUInt32 >>> ((Int32.ofInt 1).toUInt32 &&& Int32.toUInt32 31)).toInt32) &&& (1431655765 : Int32))) &&& (858993459 : Int32)) + ((((a - (((a.toUInt32 >>> ((Int32.ofInt 1).toUInt32 &&& Int32.toUInt32 31)).toInt32) &&& (1431655765 : Int32))).toUInt32 >>> ((Int32.ofInt 2).toUInt32 &&& Int32.toUInt32 31)).toInt32) &&& (858993459 : Int32))).toUInt32 >>> ((Int32.ofInt 4).toUInt32 &&& Int32.toUInt32 31)).toInt32)) &&& (252645135 : Int32)) + (((((((a - (((a.toUInt32 >>> ((Int32.ofInt 1).toUInt32 &&& Int32.toUInt32 31)).toInt32) &&& (1431655765 : Int32))) &&& (858993459 : Int32)) + ((((a - (((a.toUInt32 >>> ((Int32.ofInt 1).toUInt32 &&& Int32.toUInt32 31)).toInt32) &&& (1431655765 : Int32))).toUInt32 >>> ((Int32.ofInt 2).toUInt32 &&& Int32.toUInt32 31)).toInt32) &&& (858993459 : Int32))) + (((((a - (((a.toUInt32 >>> ((Int32.ofInt 1).toUInt32 &&& Int32.toUInt32 31)).toInt32) &&& (1431655765 : Int32))) &&& (858993459 : Int32)) + ((((a - (((a.toUInt32 >>> ((Int32.ofInt 1).toUInt32 &&& Int32.toUInt32 31)).toInt32) &&& (1431655765 : Int32))).toUInt32 >>> ((Int32.ofInt 2).toUInt32 &&& Int32.toUInt32 31)).toInt32) &&& (858993459 : Int32))).toUInt32 >>> ((Int32.ofInt 4).toUInt32 &&& Int32.toUInt32 31)).toInt32)) &&& (252645135 : Int32)).toUInt32 >>> (((Int8.ofInt 8).toInt32).toUInt32 &&& Int32.toUInt32 31)).toInt32)).toUInt32 >>> (((Int8.ofInt 16).toInt32).toUInt32 &&& Int32.toUInt32 31)).toInt32))))]) (st' := [.int (((((((((a - (((a.toUInt32 >>> ((Int32.ofInt 1).toUInt32 &&& Int32.toUInt32 31)).toInt32) &&& (1431655765 : Int32))) &&& (858993459 : Int32)) + ((((a - (((a.toUInt32 >>> ((Int32.ofInt 1).toUInt32 &&& Int32.toUInt32 31)).toInt32) &&& (1431655765 : Int32))).toUInt32 >>> ((Int32.ofInt 2).toUInt32 &&& Int32.toUInt32 31)).toInt32) &&& (858993459 : Int32))) + (((((a - (((a.toUInt32 >>> ((Int32.ofInt 1).toUInt32 &&& Int32.toUInt32 31)).toInt32) &&& (1431655765 : Int32))) &&& (858993459 : Int32)) + ((((a - (((a.toUInt32 >>> ((Int32.ofInt 1).toUInt32 &&& Int32.toUInt32 31)).toInt32) &&& (1431655765 : Int32))).toUInt32 >>> ((Int32.ofInt 2).toUInt32 &&& Int32.toUInt32 31)).toInt32) &&& (858993459 : Int32))).toUInt32 >>> ((Int32.ofInt 4).toUInt32 &&& Int32.toUInt32 31)).toInt32)) &&& (252645135 : Int32)) + (((((((a - (((a.toUInt32 >>> ((Int32.ofInt 1).toUInt32 &&& Int32.toUInt32 31)).toInt32) &&& (1431655765 : Int32))) &&& (858993459 : Int32)) + ((((a - (((a.toUInt32 >>> ((Int32.ofInt 1).toUInt32 &&& Int32.toUInt32 31)).toInt32) &&& (1431655765 : Int32))).toUInt32 >>> ((Int32.ofInt 2).toUInt32 &&& Int32.toUInt32 31)).toInt32) &&& (858993459 : Int32))) + (((((a - (((a.toUInt32 >>> ((Int32.ofInt 1).toUInt32 &&& Int32.toUInt32 31)).toInt32) &&& (1431655765 : Int32))) &&& (858993459 : Int32)) + ((((a - (((a.toUInt32 >>> ((Int32.ofInt 1).toUInt32 &&& Int32.toUInt32 31)).toInt32) &&& (1431655765 : Int32))).toUInt32 >>> ((Int32.ofInt 2).toUInt32 &&& Int32.toUInt32 31)).toInt32) &&& (858993459 : Int32))).toUInt32 >>> ((Int32.ofInt 4).toUInt32 &&& Int32.toUInt32 31)).toInt32)) &&& (252645135 : Int32)).toUInt32 >>> (((Int8.ofInt 8).toInt32).toUInt32 &&& Int32.toUInt32 31)).toInt32)) + ((((((((a - (((a.toUInt32 >>> ((Int32.ofInt 1).toUInt32 &&& Int32.toUInt32 31)).toInt32) &&& (1431655765 : Int32))) &&& (858993459 : Int32)) + ((((a - (((a.toUInt32 >>> ((Int32.ofInt 1).toUInt32 &&& Int32.toUInt32 31)).toInt32) &&& (1431655765 : Int32))).toUInt32 >>> ((Int32.ofInt 2).toUInt32 &&& Int32.toUInt32 31)).toInt32) &&& (858993459 : Int32))) + (((((a - (((a.toUInt32 >>> ((Int32.ofInt 1).toUInt32 &&& Int32.toUInt32 31)).toInt32) &&& (1431655765 : Int32))) &&& (858993459 : Int32)) + ((((a - (((a.toUInt32 >>> ((Int32.ofInt 1).toUInt32 &&& Int32.toUInt32 31)).toInt32) &&& (1431655765 : Int32))).toUInt32 >>> ((Int32.ofInt 2).toUInt32 &&& Int32.toUInt32 31)).toInt32) &&& (858993459 : Int32))).toUInt32 >>> ((Int32.ofInt 4).toUInt32 &&& Int32.toUInt32 31)).toInt32)) &&& (252645135 : Int32)) + (((((((a - (((a.toUInt32 >>> ((Int32.ofInt 1).toUInt32 &&& Int32.toUInt32 31)).toInt32) &&& (1431655765 : Int32))) &&& (858993459 : Int32)) + ((((a - (((a.toUInt32 >>> ((Int32.ofInt 1).toUInt32 &&& Int32.toUInt32 31)).toInt32) &&& (1431655765 : Int32))).toUInt32 >>> ((Int32.ofInt 2).toUInt32 &&& Int32.toUInt32 31)).toInt32) &&& (858993459 : Int32))) + (((((a - (((a.toUInt32 >>> ((Int32.ofInt 1).toUInt32 &&& Int32.toUInt32 31)).toInt32) &&& (1431655765 : Int32))) &&& (858993459 : Int32)) + ((((a - (((a.toUInt32 >>> ((Int32.ofInt 1).toUInt32 &&& Int32.toUInt32 31)).toInt32) &&& (1431655765 : Int32))).toUInt32 >>> ((Int32.ofInt 2).toUInt32 &&& Int32.toUInt32 31)).toInt32) &&& (858993459 : Int32))).toUInt32 >>> ((Int32.ofInt 4).toUInt32 &&& Int32.toUInt32 31)).toInt32)) &&& (252645135 : Int32)).toUInt32 >>> (((Int8.ofInt 8).toInt32).toUInt32 &&& Int32.toUInt32 31)).toInt32)).toUInt32 >>> (((Int8.ofInt 16).toInt32).toUInt32 &&& Int32.toUInt32 31)).toInt32)) &&& ((Int8.ofInt 63).toInt32)))]) rfl ?_
  refine En_nam (fun z hz => ?_)
  have hx := R32_x hl_a
  have hb := bits_fin (z := z) (N := fun n => (((((((((((((4294967296 - ((n >>> 1) &&& 1431655765) + n) % 4294967296) &&& 858993459) + ((((4294967296 - ((n >>> 1) &&& 1431655765) + n) % 4294967296) >>> 2) &&& 858993459)) % 4294967296) + ((((((4294967296 - ((n >>> 1) &&& 1431655765) + n) % 4294967296) &&& 858993459) + ((((4294967296 - ((n >>> 1) &&& 1431655765) + n) % 4294967296) >>> 2) &&& 858993459)) % 4294967296) >>> 4)) % 4294967296) &&& 252645135) + (((((((((4294967296 - ((n >>> 1) &&& 1431655765) + n) % 4294967296) &&& 858993459) + ((((4294967296 - ((n >>> 1) &&& 1431655765) + n) % 4294967296) >>> 2) &&& 858993459)) % 4294967296) + ((((((4294967296 - ((n >>> 1) &&& 1431655765) + n) % 4294967296) &&& 858993459) + ((((4294967296 - ((n >>> 1) &&& 1431655765) + n) % 4294967296) >>> 2) &&& 858993459)) % 4294967296) >>> 4)) % 4294967296) &&& 252645135) >>> 8)) % 4294967296) + (((((((((((4294967296 - ((n >>> 1) &&& 1431655765) + n) % 4294967296) &&& 858993459) + ((((4294967296 - ((n >>> 1) &&& 1431655765) + n) % 4294967296) >>> 2) &&& 858993459)) % 4294967296) + ((((((4294967296 - ((n >>> 1) &&& 1431655765) + n) % 4294967296) &&& 858993459) + ((((4294967296 - ((n >>> 1) &&& 1431655765) + n) % 4294967296) >>> 2) &&& 858993459)) % 4294967296) >>> 4)) % 4294967296) &&& 252645135) + (((((((((4294967296 - ((n >>> 1) &&& 1431655765) + n) % 4294967296) &&& 858993459) + ((((4294967296 - ((n >>> 1) &&& 1431655765) + n) % 4294967296) >>> 2) &&& 858993459)) % 4294967296) + ((((((4294967296 - ((n >>> 1) &&& 1431655765) + n) % 4294967296) &&& 858993459) + ((((4294967296 - ((n >>> 1) &&& 1431655765) + n) % 4294967296) >>> 2) &&& 858993459)) % 4294967296) >>> 4)) % 4294967296) &&& 252645135) >>> 8)) % 4294967296) >>> 16)) % 4294967296) &&& 63)) (by rw [hz]; exact (R32_and (R32_add (R32_add (R32_and (R32_add (R32_add (R32_and (R32_sub hx (R32_and (R32_ush hx (by decide)) (R32_c (by decide)))) (R32_c (by decide))) (R32_and (R32_ush (R32_sub hx (R32_and (R32_ush hx (by decide)) (R32_c (by decide)))) (by decide)) (R32_c (by decide)))) (R32_ush (R32_add (R32_and (R32_sub hx (R32_and (R32_ush hx (by decide)) (R32_c (by decide)))) (R32_c (by decide))) (R32_and (R32_ush (R32_sub hx (R32_and (R32_ush hx (by decide)) (R32_c (by decide)))) (by decide)) (R32_c (by decide)))) (by decide))) (R32_c (by decide))) (R32_ush (R32_and (R32_add (R32_add (R32_and (R32_sub hx (R32_and (R32_ush hx (by decide)) (R32_c (by decide)))) (R32_c (by decide))) (R32_and (R32_ush (R32_sub hx (R32_and (R32_ush hx (by decide)) (R32_c (by decide)))) (by decide)) (R32_c (by decide)))) (R32_ush (R32_add (R32_and (R32_sub hx (R32_and (R32_ush hx (by decide)) (R32_c (by decide)))) (R32_c (by decide))) (R32_and (R32_ush (R32_sub hx (R32_and (R32_ush hx (by decide)) (R32_c (by decide)))) (by decide)) (R32_c (by decide)))) (by decide))) (R32_c (by decide))) (by decide))) (R32_ush (R32_add (R32_and (R32_add (R32_add (R32_and (R32_sub hx (R32_and (R32_ush hx (by decide)) (R32_c (by decide)))) (R32_c (by decide))) (R32_and (R32_ush (R32_sub hx (R32_and (R32_ush hx (by decide)) (R32_c (by decide)))) (by decide)) (R32_c (by decide)))) (R32_ush (R32_add (R32_and (R32_sub hx (R32_and (R32_ush hx (by decide)) (R32_c (by decide)))) (R32_c (by decide))) (R32_and (R32_ush (R32_sub hx (R32_and (R32_ush hx (by decide)) (R32_c (by decide)))) (by decide)) (R32_c (by decide)))) (by decide))) (R32_c (by decide))) (R32_ush (R32_and (R32_add (R32_add (R32_and (R32_sub hx (R32_and (R32_ush hx (by decide)) (R32_c (by decide)))) (R32_c (by decide))) (R32_and (R32_ush (R32_sub hx (R32_and (R32_ush hx (by decide)) (R32_c (by decide)))) (by decide)) (R32_c (by decide)))) (R32_ush (R32_add (R32_and (R32_sub hx (R32_and (R32_ush hx (by decide)) (R32_c (by decide)))) (R32_c (by decide))) (R32_and (R32_ush (R32_sub hx (R32_and (R32_ush hx (by decide)) (R32_c (by decide)))) (by decide)) (R32_c (by decide)))) (by decide))) (R32_c (by decide))) (by decide))) (by decide))) (R32_c (by decide)))) (qn_c 0 (by decide)) (qn_c 1 (by decide)) (qn_c 2 (by decide)) (qn_c 3 (by decide)) (qn_c 4 (by decide)) (qn_c 5 (by decide)) (qn_c 6 (by decide)) (qn_c 7 (by decide)) (qn_c 8 (by decide)) (qn_c 9 (by decide)) (qn_c 10 (by decide)) (qn_c 11 (by decide)) (qn_c 12 (by decide)) (qn_c 13 (by decide)) (qn_c 14 (by decide)) (qn_c 15 (by decide)) hl_a hu_a
  have hr := pcI_rng a.toInt
  exact En_ret (v := some (Value.int z)) rfl rfl rfl ⟨hσ0, hF0, z, rfl, (by omega)⟩
/-- java/lang/Integer.bitCount(I)I -/
abbrev P_7cx (σ0 : SG) (a : Int32) : PO := fun v σ => WT σ ∧ Fr [] σ0 σ ∧ ∃ ret : Int32, v = some (Value.int ret) ∧ -ret.toInt ≤ 0 ∧ ret.toInt - 63 ≤ 0
set_option maxRecDepth 10000 in
set_option maxHeartbeats 4000000 in
theorem c_7cx (σ0 : SG) (hσ0 : WT σ0) (a : Int32) : En 0 0 none mr_7 (P_7cx σ0 a) 0 [(0, .int a)] [] σ0 := by
  have hF0 : Fr [] σ0 σ0 := Fr_rfl
  refine En_Ps 4 (pc' := 4) (lv' := [(0, .int a)]) (st' := [.int (((a.toUInt32 >>> (((Int32.ofInt 1)).toUInt32 &&& Int32.toUInt32 31)).toInt32)), .int a]) rfl ?_
  refine En_hav (fun z1 => ?_)
  refine En_Ps 2 (pc' := 8) (lv' := [(0, .int a)]) (st' := [.int ((z1 &&& ((1431655765 : Int32)))), .int a]) rfl ?_
  refine En_rng (l := 0) (u := 1431655765) (andR_rng (by decide : (1431655765 : Int32).toInt = 1431655765) (by decide)) (fun z2 h3 h4 => ?_)
  refine En_Ps 1 (pc' := 9) (lv' := [(0, .int a)]) (st' := [.int ((a - z2))]) rfl ?_
  refine En_hav (fun z5 => ?_)
  refine En_Ps 4 (pc' := 15) (lv' := [(0, .int z5)]) (st' := [.int ((z5 &&& ((858993459 : Int32))))]) rfl ?_
  refine En_rng (l := 0) (u := 858993459) (andR_rng (by decide : (858993459 : Int32).toInt = 858993459) (by decide)) (fun z6 h7 h8 => ?_)
  refine En_Ps 3 (pc' := 18) (lv' := [(0, .int z5)]) (st' := [.int (((z5.toUInt32 >>> (((Int32.ofInt 2)).toUInt32 &&& Int32.toUInt32 31)).toInt32)), .int z6]) rfl ?_
  refine En_hav (fun z9 => ?_)
  refine En_Ps 2 (pc' := 22) (lv' := [(0, .int z5)]) (st' := [.int ((z9 &&& ((858993459 : Int32)))), .int z6]) rfl ?_
  refine En_rng (l := 0) (u := 858993459) (andR_rng (by decide : (858993459 : Int32).toInt = 858993459) (by decide)) (fun z10 h11 h12 => ?_)
  refine En_Ps 1 (pc' := 23) (lv' := [(0, .int z5)]) (st' := [.int ((z6 + z10))]) rfl ?_
  refine En_top (addI rfl rfl (by first | exact q_3bb374bebc h7 h11 | omega) (by first | exact q_ce39e5e0e0 h8 h12 | omega)) (fun z13 h14 => ?_)
  refine En_Ps 5 (pc' := 28) (lv' := [(0, .int z13)]) (st' := [.int (((z13.toUInt32 >>> (((Int32.ofInt 4)).toUInt32 &&& Int32.toUInt32 31)).toInt32)), .int z13]) rfl ?_
  refine En_hav (fun z15 => ?_)
  refine En_Ps 1 (pc' := 29) (lv' := [(0, .int z13)]) (st' := [.int ((z13 + z15))]) rfl ?_
  refine En_hav (fun z16 => ?_)
  refine En_Ps 2 (pc' := 33) (lv' := [(0, .int z13)]) (st' := [.int ((z16 &&& ((252645135 : Int32))))]) rfl ?_
  refine En_rng (l := 0) (u := 252645135) (andR_rng (by decide : (252645135 : Int32).toInt = 252645135) (by decide)) (fun z17 h18 h19 => ?_)
  refine En_Ps 5 (pc' := 39) (lv' := [(0, .int z17)]) (st' := [.int (((z17.toUInt32 >>> ((((Int8.ofInt 8).toInt32)).toUInt32 &&& Int32.toUInt32 31)).toInt32)), .int z17]) rfl ?_
  refine En_hav (fun z20 => ?_)
  refine En_Ps 1 (pc' := 40) (lv' := [(0, .int z17)]) (st' := [.int ((z17 + z20))]) rfl ?_
  refine En_hav (fun z21 => ?_)
  refine En_Ps 5 (pc' := 46) (lv' := [(0, .int z21)]) (st' := [.int (((z21.toUInt32 >>> ((((Int8.ofInt 16).toInt32)).toUInt32 &&& Int32.toUInt32 31)).toInt32)), .int z21]) rfl ?_
  refine En_hav (fun z22 => ?_)
  refine En_Ps 1 (pc' := 47) (lv' := [(0, .int z21)]) (st' := [.int ((z21 + z22))]) rfl ?_
  refine En_hav (fun z23 => ?_)
  refine En_Ps 4 (pc' := 52) (lv' := [(0, .int z23)]) (st' := [.int ((z23 &&& (((Int8.ofInt 63).toInt32))))]) rfl ?_
  refine En_rng (l := 0) (u := 63) (andR_rng (by decide : ((Int8.ofInt 63).toInt32).toInt = 63) (by decide)) (fun z24 h25 h26 => ?_)
  exact En_ret (v := some (Value.int z24)) rfl rfl rfl ⟨hσ0, hF0, z24, rfl, ⟨by first | exact q_c803b490ef h25 | omega, by first | exact q_ac3306975b h26 | omega⟩⟩
/-- java/util/Arrays.fill([II)V -/
abbrev P_8ax (σ0 : SG) (a : Nat) (b : Int32) : PO := fun v σ => WT σ ∧ Fr [(26, 0)] σ0 σ ∧ v = none ∧ ((∀ k : Int, 0 ≤ k → k < 6 → ci σ a k = 0) ∧ ∀ b q : Nat, b ≠ a → (σ b)[q]? = (σ0 b)[q]?)
set_option maxRecDepth 10000 in
set_option maxHeartbeats 4000000 in
theorem c_8ax (σ0 : SG) (hσ0 : WT σ0) (a : Nat) (ha : TG a = 26) (b : Int32) (hl_b : 0 ≤ b.toInt) (hu_b : b.toInt ≤ 0) : En 0 0 none mr_8 (P_8ax σ0 a b) 0 [(0, .ref a), (1, .int b)] [] σ0 := by
  have hF0 : Fr [(26, 0)] σ0 σ0 := Fr_rfl
  refine En_Ps 3 (pc' := 3) (lv' := [(2, .int ((Int32.ofInt 0))), (0, .ref a), (1, .int b)]) (st' := [.ref a]) rfl ?_
  refine En_alenN (n := 6) rfl ha (by decide +kernel) (by decide +kernel) hσ0 ?_
  refine En_Ps 1 (pc' := 5) (lv' := [(3, .int ((Int32.ofNat 6))), (2, .int ((Int32.ofInt 0))), (0, .ref a), (1, .int b)]) (st' := []) rfl ?_
  have key5 : ∀ (n5 : Nat) (σ2 : SG) (y1 : Int32), WT σ2 → Fr [(26, 0)] σ0 σ2 → 0 ≤ y1.toInt → y1.toInt ≤ 6 → -y1.toInt + 6 < (n5 : Int) → FZi σ2 a y1.toInt → (∀ b q : Nat, b ≠ a → (σ2 b)[q]? = (σ0 b)[q]?) → En 0 0 none mr_8 (P_8ax σ0 a b) 5 [(0, .ref a), (1, .int b), (2, .int y1), (3, .int ((Int32.ofNat 6)))] [] σ2 := by
    intro n5
    induction n5 with
    | zero =>
      intro σ2 y1 h3 h4 h5 h6 h7 h8 h9
      first | exact (q_1c67ffb2e6 h7 h6).elim | (exfalso; omega)
    | succ n5 ih5 =>
      intro σ2 y1 h3 h4 h5 h6 h7 h8 h9
      refine En_Ps 2 (pc' := 7) (lv' := [(0, .ref a), (1, .int b), (2, .int y1), (3, .int ((Int32.ofNat 6)))]) (st' := [.int ((Int32.ofNat 6)), .int y1]) rfl ?_
      refine En_icGe _ rfl (by decide : (Int32.ofNat 6).toInt = 6) rfl (fun h10 => ?_) (fun h10 => ?_)
      · exact En_ret (v := none) rfl rfl rfl ⟨h3, h4, rfl, ⟨FZi_x h8 (by (first | exact q_eddbad93f4 h10 | omega)), h9⟩⟩
      · refine En_Ps 3 (pc' := 13) (lv' := [(0, .ref a), (1, .int b), (2, .int y1), (3, .int ((Int32.ofNat 6)))]) (st' := [.int b, .int y1, .ref a]) rfl ?_
        refine En_iast (l := 0) (u := 63) rfl rfl ha (by decide +kernel) (by first | exact q_58e6e51dcc h5 | omega) (lnI (by decide +kernel : LN _ = 6) (by first | exact q_ab9991d2ad h10 | omega)) (FTsgl (by decide +kernel)) (rngI rfl (by first | exact q_58e6e51dcc hl_b | omega) (by first | exact q_6903924f0e hu_b | omega)) h3 h4 (by decide +kernel) (fun σ11 h12 h13 h14 h15 => ?_)
        refine En_Ps 1 (pc' := 17) (lv' := [(2, .int ((y1 + Int32.ofInt 1))), (0, .ref a), (1, .int b), (3, .int ((Int32.ofNat 6)))]) (st' := []) rfl ?_
        refine En_lv1 (addI rfl (by decide : (Int32.ofInt 1).toInt = 1) (by first | exact q_465ab79ac1 h5 | omega) (by first | exact q_2918abfa70 h10 | omega)) (fun z16 h17 => ?_)
        refine En_Ps 1 (pc' := 5) (lv' := [(2, .int z16), (0, .ref a), (1, .int b), (3, .int ((Int32.ofNat 6)))]) (st' := []) rfl ?_
        refine En_lv (lv := [(0, .ref a), (1, .int b), (2, .int z16), (3, .int ((Int32.ofNat 6)))]) ⟨rfl, rfl, rfl, rfl, trivial⟩ ?_
        exact ih5 σ11 z16 h12 h13 (by first | exact q_35104ce9d3 h17 h5 | omega) (by first | exact q_13d1e79bb8 h17 h10 | omega) (by first | exact q_18a3ecfd63 h17 h7 | omega) (FZi_s h8 h14 h15 (by (first | exact q_66af5a274d hl_b hu_b | omega)) (by (first | exact q_9cedef5b60 h5 | omega)) (by (first | exact q_ba1b2c713b h17 | omega))) (NE_s h9 h15)
  have := (by decide : (Int32.ofInt 0).toInt = 0)
  refine En_lv (lv := [(0, .ref a), (1, .int b), (2, .int ((Int32.ofInt 0))), (3, .int ((Int32.ofNat 6)))]) ⟨rfl, rfl, rfl, rfl, trivial⟩ ?_
  exact key5 (Int.toNat (6) + 1) σ0 ((Int32.ofInt 0)) hσ0 hF0 (by decide) (by decide) (by first | exact toN_lt _ | omega) (FZi_0 (by decide)) (fun _ _ _ => rfl)
/-- DoorSchool$Door.begin(II)V -/
abbrev P_12x (σ0 : SG) (s : Nat) (a : Int32) (b : Int32) (l : Nat) : PO := fun v σ => WT σ ∧ Fr [(20, 2), (28, 1), (28, 2), (28, 3)] σ0 σ ∧ v = none ∧ BGNp σ0 σ s l a.toInt b.toInt
set_option maxRecDepth 10000 in
set_option maxHeartbeats 4000000 in
theorem c_12x (σ0 : SG) (hσ0 : WT σ0) (s : Nat) (hs : TG s = 28) (a : Int32) (b : Int32) (hl_a : 0 ≤ a.toInt) (hu_a : a.toInt ≤ 2) (hl_b : 0 ≤ b.toInt) (hu_b : b.toInt ≤ 50) (l : Nat) (hl : TG l = 20) (h_l : (σ0 s)[0]? = some (Value.ref l)) : En 0 0 none mr_12 (P_12x σ0 s a b l) 0 [(0, .ref s), (1, .int a), (2, .int b)] [] σ0 := by
  have hF0 : Fr [(20, 2), (28, 1), (28, 2), (28, 3)] σ0 σ0 := Fr_rfl
  refine En_Ps 2 (pc' := 2) (lv' := [(0, .ref s), (1, .int a), (2, .int b)]) (st' := [.int a, .ref s]) rfl ?_
  refine En_put (j := 1) rfl rfl rfl hs (by decide +kernel) rfl (vI (l := 0) (u := 2) (by decide +kernel) rfl (by first | exact q_58e6e51dcc hl_a | omega) (by first | exact q_a85463bd0d hu_a | omega)) hσ0 hF0 (by decide +kernel) (fun σ1 h2 h3 h4 h5 => ?_)
  refine En_Ps 2 (pc' := 7) (lv' := [(0, .ref s), (1, .int a), (2, .int b)]) (st' := [.int b, .ref s]) rfl ?_
  refine En_put (j := 2) rfl rfl rfl hs (by decide +kernel) rfl (vI (l := 0) (u := 50) (by decide +kernel) rfl (by first | exact q_58e6e51dcc hl_b | omega) (by first | exact q_2eaa18fab1 hu_b | omega)) h2 h3 (by decide +kernel) (fun σ6 h7 h8 h9 h10 => ?_)
  refine En_Ps 2 (pc' := 12) (lv' := [(0, .ref s), (1, .int a), (2, .int b)]) (st' := [.int ((Int32.ofInt (-1))), .ref s]) rfl ?_
  refine En_put (j := 3) rfl rfl rfl hs (by decide +kernel) rfl (vI (l := (-1)) (u := 3) (by decide +kernel) (by decide : (Int32.ofInt (-1)).toInt = -1) (by decide) (by decide)) h7 h8 (by decide +kernel) (fun σ11 h12 h13 h14 h15 => ?_)
  refine En_Ps 1 (pc' := 16) (lv' := [(0, .ref s), (1, .int a), (2, .int b)]) (st' := [.ref s]) rfl ?_
  refine En_getK (j := 0) ((h15 _ _ (Or.inr (by decide))).trans ((h10 _ _ (Or.inr (by decide))).trans ((h5 _ _ (Or.inr (by decide))).trans h_l))) rfl rfl rfl hs (by decide +kernel) ?_
  refine En_Ps 1 (pc' := 20) (lv' := [(0, .ref s), (1, .int a), (2, .int b)]) (st' := [.int ((Int32.ofInt 0)), .ref l]) rfl ?_
  refine En_put (j := 2) rfl rfl rfl hl (by decide +kernel) rfl (vI (l := 0) (u := 13) (by decide +kernel) (by decide : (Int32.ofInt 0).toInt = 0) (by decide) (by decide)) h12 h13 (by decide +kernel) (fun σ16 h17 h18 h19 h20 => ?_)
  exact En_ret (v := none) rfl rfl rfl ⟨h17, h18, rfl, BGN_mk h4 h5 h9 h10 h14 h15 h19 h20 hs hl rfl rfl (by decide) (by decide)⟩
/-- DoorSchool$Lessons.takeFrom(LDoorSchool$Lessons;)V -/
abbrev P_40x (σ0 : SG) (s : Nat) (a : Nat) (kn : Nat) (op : Nat) (ak : Nat) (ao : Nat) (az : Int32) : PO := fun v σ => WT σ ∧ Fr [(20, 2), (21, 0), (22, 0)] σ0 σ ∧ v = none ∧ LTF σ0 σ s kn op a ak ao
set_option maxRecDepth 10000 in
set_option maxHeartbeats 4000000 in
theorem c_40x (σ0 : SG) (hσ0 : WT σ0) (s : Nat) (hs : TG s = 20) (a : Nat) (ha : TG a = 20) (kn : Nat) (hkn : TG kn = 21) (h_kn : (σ0 s)[0]? = some (Value.ref kn)) (op : Nat) (hop : TG op = 22) (h_op : (σ0 s)[1]? = some (Value.ref op)) (ak : Nat) (hak : TG ak = 21) (h_ak : (σ0 a)[0]? = some (Value.ref ak)) (ao : Nat) (hao : TG ao = 22) (h_ao : (σ0 a)[1]? = some (Value.ref ao)) (az : Int32) (h_az : (σ0 a)[2]? = some (Value.int az)) (hs1 : kn = s + 1 ∧ op = s + 2) (ht1 : ak = a + 1 ∧ ao = a + 2) (hd1 : s + 3 ≤ a ∨ a + 3 ≤ s) : En 1 60 none mr_40 (P_40x σ0 s a kn op ak ao az) 0 [(0, .ref s), (1, .ref a)] [] σ0 := by
  obtain ⟨hl_az, hu_az⟩ := WT_int hσ0 (g := 20) ha (by decide +kernel) (l := 0) (u := 13) (by decide +kernel) h_az
  have hF0 : Fr [(20, 2), (21, 0), (22, 0)] σ0 σ0 := Fr_rfl
  refine En_Ps 2 (pc' := 2) (lv' := [(0, .ref s), (1, .ref a)]) (st' := [.ref a, .ref s]) rfl ?_
  refine En_getK (j := 2) h_az rfl rfl rfl ha (by decide +kernel) ?_
  refine En_put (j := 2) rfl rfl rfl hs (by decide +kernel) rfl (vI (l := 0) (u := 13) (by decide +kernel) rfl (by first | exact q_58e6e51dcc hl_az | omega) (by first | exact q_7991346fe8 hu_az | omega)) hσ0 hF0 (by decide +kernel) (fun σ1 h2 h3 h4 h5 => ?_)
  refine En_Ps 1 (pc' := 9) (lv' := [(0, .ref s), (1, .ref a)]) (st' := [.ref a]) rfl ?_
  refine En_getK (j := 0) ((h5 _ _ (Or.inr (by decide))).trans h_ak) rfl rfl rfl ha (by decide +kernel) ?_
  refine En_Ps 2 (pc' := 14) (lv' := [(0, .ref s), (1, .ref a)]) (st' := [.ref s, .int ((Int32.ofInt 0)), .ref ak]) rfl ?_
  refine En_getK (j := 0) ((h5 _ _ (Or.inr (by decide))).trans h_kn) rfl rfl rfl hs (by decide +kernel) ?_
  refine En_Ps 2 (pc' := 20) (lv' := [(0, .ref s), (1, .ref a)]) (st' := [.int (((Int8.ofInt 13).toInt32)), .int ((Int32.ofInt 0)), .ref kn, .int ((Int32.ofInt 0)), .ref ak]) rfl ?_
  refine En_copyX (n0 := 13) (n1 := 13) (by decide : ((Int8.ofInt 13).toInt32).toInt = 13) (by decide : (Int32.ofInt 0).toInt = 0) (by decide : (Int32.ofInt 0).toInt = 0) rfl rfl rfl rfl hak hkn (by decide +kernel) (by decide +kernel) (by decide +kernel) (by decide +kernel) (by decide +kernel) (by (first | decide | omega)) (by (first | decide | omega)) (by (first | decide | omega)) (by (first | decide | omega)) (by (first | decide | omega)) h2 h3 (by decide +kernel) (fun σ6 h7 h8 h9 h10 => ?_)
  have h11 := ROW_mk (n := 13) h9 h10 (by decide) (by decide) (by decide)
  refine En_Ps 1 (pc' := 24) (lv' := [(0, .ref s), (1, .ref a)]) (st' := [.ref a]) rfl ?_
  refine En_getK (j := 1) ((h9 _ _ (neTG ha hkn (by decide))).trans ((h5 _ _ (Or.inr (by decide))).trans h_ao)) rfl rfl rfl ha (by decide +kernel) ?_
  refine En_Ps 2 (pc' := 29) (lv' := [(0, .ref s), (1, .ref a)]) (st' := [.ref s, .int ((Int32.ofInt 0)), .ref ao]) rfl ?_
  refine En_getK (j := 1) ((h9 _ _ (neTG hs hkn (by decide))).trans ((h5 _ _ (Or.inr (by decide))).trans h_op)) rfl rfl rfl hs (by decide +kernel) ?_
  refine En_Ps 2 (pc' := 35) (lv' := [(0, .ref s), (1, .ref a)]) (st' := [.int (((Int8.ofInt 13).toInt32)), .int ((Int32.ofInt 0)), .ref op, .int ((Int32.ofInt 0)), .ref ao]) rfl ?_
  refine En_copyX (n0 := 13) (n1 := 13) (by decide : ((Int8.ofInt 13).toInt32).toInt = 13) (by decide : (Int32.ofInt 0).toInt = 0) (by decide : (Int32.ofInt 0).toInt = 0) rfl rfl rfl rfl hao hop (by decide +kernel) (by decide +kernel) (by decide +kernel) (by decide +kernel) (by decide +kernel) (by (first | decide | omega)) (by (first | decide | omega)) (by (first | decide | omega)) (by (first | decide | omega)) (by (first | decide | omega)) h7 h8 (by decide +kernel) (fun σ12 h13 h14 h15 h16 => ?_)
  have h17 := ROW_mk (n := 13) h15 h16 (by decide) (by decide) (by decide)
  exact En_ret (v := none) rfl rfl rfl ⟨h13, h14, rfl, LTF_mk h_az h4 h5 h11 h17 (by omega) (by omega) (by omega) (by omega) (by omega) (by omega)⟩
/-- DoorSchool$Door.takeFrom(LDoorSchool$Door;)V -/
abbrev P_14x (σ0 : SG) (s : Nat) (a : Nat) (l : Nat) (kn : Nat) (op : Nat) (al : Nat) (ak : Nat) (ao : Nat) : PO := fun v σ => WT σ ∧ Fr [(20, 2), (21, 0), (22, 0), (28, 1), (28, 2), (28, 3)] σ0 σ ∧ v = none ∧ DTF σ0 σ s l kn op a al ak ao
set_option maxRecDepth 10000 in
set_option maxHeartbeats 4000000 in
theorem c_14x (σ0 : SG) (hσ0 : WT σ0) (s : Nat) (hs : TG s = 28) (a : Nat) (ha : TG a = 28) (l : Nat) (hl : TG l = 20) (h_l : (σ0 s)[0]? = some (Value.ref l)) (kn : Nat) (hkn : TG kn = 21) (h_kn : (σ0 l)[0]? = some (Value.ref kn)) (op : Nat) (hop : TG op = 22) (h_op : (σ0 l)[1]? = some (Value.ref op)) (al : Nat) (hal : TG al = 20) (h_al : (σ0 a)[0]? = some (Value.ref al)) (ak : Nat) (hak : TG ak = 21) (h_ak : (σ0 al)[0]? = some (Value.ref ak)) (ao : Nat) (hao : TG ao = 22) (h_ao : (σ0 al)[1]? = some (Value.ref ao)) (hs1 : l = s + 1 ∧ kn = s + 2 ∧ op = s + 3) (ht1 : al = a + 1 ∧ ak = a + 2 ∧ ao = a + 3) (hd1 : s + 4 ≤ a ∨ a + 4 ≤ s) : En 2 81 none mr_14 (P_14x σ0 s a l kn op al ak ao) 0 [(0, .ref s), (1, .ref a)] [] σ0 := by
  have hF0 : Fr [(20, 2), (21, 0), (22, 0), (28, 1), (28, 2), (28, 3)] σ0 σ0 := Fr_rfl
  refine En_Ps 2 (pc' := 2) (lv' := [(0, .ref s), (1, .ref a)]) (st' := [.ref a, .ref s]) rfl ?_
  refine En_getI (j := 1) (l := 0) (u := 2) rfl rfl rfl ha (by decide +kernel) hσ0 (by decide +kernel) (fun z2 h1 h3 h4 => ?_)
  refine En_Ps 1 (pc' := 6) (lv' := [(0, .ref s), (1, .ref a)]) (st' := [.ref a, .int z2, .ref s]) rfl ?_
  refine En_getI (j := 2) (l := 0) (u := 50) rfl rfl rfl ha (by decide +kernel) hσ0 (by decide +kernel) (fun z6 h5 h7 h8 => ?_)
  refine En_callV rfl rfl rfl rfl rfl rfl rfl rfl hs (by decide +kernel) rfl (c_12x σ0 hσ0 s hs z2 z6 (geI rfl (by first | exact q_58e6e51dcc h3 | omega)) (leI rfl (by first | exact q_a85463bd0d h4 | omega)) (geI rfl (by first | exact q_58e6e51dcc h7 | omega)) (leI rfl (by first | exact q_2eaa18fab1 h8 | omega)) l hl h_l) (by decide) (by decide) (fun v10 σ11 h9 => ?_)
  obtain ⟨h12, h13, rfl, h14⟩ := h9
  have h15 := h14
  have h16 := Fr_trans hF0 h13 (by decide +kernel)
  refine En_Ps 2 (pc' := 14) (lv' := [(0, .ref s), (1, .ref a)]) (st' := [.ref a, .ref s]) rfl ?_
  refine En_getI (j := 3) (l := (-1)) (u := 3) rfl rfl rfl ha (by decide +kernel) h12 (by decide +kernel) (fun z18 h17 h19 h20 => ?_)
  have h21 := (h15.2.2.2.2 _ _ (by omega) (by omega) (by omega) (by omega)).symm.trans h17
  refine En_put (j := 3) rfl rfl rfl hs (by decide +kernel) rfl (vI (l := (-1)) (u := 3) (by decide +kernel) rfl (by first | exact q_77b189e83d h19 | omega) (by first | exact q_da5e9b976f h20 | omega)) h12 h16 (by decide +kernel) (fun σ22 h23 h24 h25 h26 => ?_)
  refine En_Ps 1 (pc' := 21) (lv' := [(0, .ref s), (1, .ref a)]) (st' := [.ref s]) rfl ?_
  refine En_getK (j := 0) ((h26 _ _ (Or.inr (by decide))).trans ((h13 _ _ (inW hs (by decide +kernel))).trans h_l)) rfl rfl rfl hs (by decide +kernel) ?_
  refine En_Ps 1 (pc' := 25) (lv' := [(0, .ref s), (1, .ref a)]) (st' := [.ref a, .ref l]) rfl ?_
  refine En_getK (j := 0) ((h26 _ _ (Or.inr (by decide))).trans ((h13 _ _ (inW ha (by decide +kernel))).trans h_al)) rfl rfl rfl ha (by decide +kernel) ?_
  obtain ⟨z28, h27, h29, h30⟩ := WT_peekI h23 hal (by decide +kernel : FT 20 2 = (0, 0, 13)) (by decide +kernel)
  refine En_callV rfl rfl rfl rfl rfl rfl rfl rfl hl (by decide +kernel) rfl (c_40x σ22 h23 l hl al hal kn hkn ((h26 _ _ (Or.inr (by decide))).trans ((h13 _ _ (inW hl (by decide +kernel))).trans h_kn)) op hop ((h26 _ _ (Or.inr (by decide))).trans ((h13 _ _ (inW hl (by decide +kernel))).trans h_op)) ak hak ((h26 _ _ (Or.inr (by decide))).trans ((h13 _ _ (inW hal (by decide +kernel))).trans h_ak)) ao hao ((h26 _ _ (Or.inr (by decide))).trans ((h13 _ _ (inW hal (by decide +kernel))).trans h_ao)) z28 h27 (by omega) (by omega) (by omega)) (by decide) (by decide) (fun v32 σ33 h31 => ?_)
  obtain ⟨h34, h35, rfl, h36⟩ := h31
  have h37 := h36
  have h38 := Fr_trans h24 h35 (by decide +kernel)
  exact En_ret (v := none) rfl rfl rfl ⟨h34, h38, rfl, DTF_mk h15 (ci_at (j := 1) h1 rfl) (ci_at (j := 2) h5 rfl) h21 h25 h26 h37 hs1 ht1 hd1⟩
/-- DoorSchool.agree(III)Z -/
abbrev P_100ax (σ0 : SG) (a : Int32) (b : Int32) (c : Int32) : PO := fun v σ => WT σ ∧ Fr [] σ0 σ ∧ ∃ ret : Int32, v = some (Value.int ret) ∧ -ret.toInt ≤ 0 ∧ ret.toInt - 1 ≤ 0 ∧ ((ret.toInt = 1 ∧ b.toInt - aN b.toInt a.toInt = 0 ∧ aN c.toInt a.toInt = 0) ∨ (ret.toInt = 0 ∧ (b.toInt - aN b.toInt a.toInt ≠ 0 ∨ aN c.toInt a.toInt ≠ 0)))
set_option maxRecDepth 10000 in
set_option maxHeartbeats 4000000 in
theorem c_100ax (σ0 : SG) (hσ0 : WT σ0) (a : Int32) (b : Int32) (c : Int32) (hl_a : 0 ≤ a.toInt) (hu_a : a.toInt ≤ 65535) (hl_b : 0 ≤ b.toInt) (hu_b : b.toInt ≤ 65535) (hl_c : 0 ≤ c.toInt) (hu_c : c.toInt ≤ 65535) : En 0 0 none mr_100 (P_100ax σ0 a b c) 0 [(0, .int a), (1, .int b), (2, .int c)] [] σ0 := by
  have hF0 : Fr [] σ0 σ0 := Fr_rfl
  refine En_Ps 4 (pc' := 4) (lv' := [(0, .int a), (1, .int b), (2, .int c)]) (st' := [.int ((a ^^^ ((Int32.ofInt (-1))))), .int b]) rfl ?_
  refine En_nam (fun z1 h2 => ?_)
  refine En_Ps 1 (pc' := 5) (lv' := [(0, .int a), (1, .int b), (2, .int c)]) (st' := [.int ((b &&& z1))]) rfl ?_
  refine En_nam (fun z4 h5 => ?_)
  have h6 : z4.toInt = b.toInt - aN b.toInt a.toInt := andn_v h5 h2 rfl rfl (by omega) (by omega)
  have := aN_le (X := b.toInt) (Y := a.toInt) (by omega) (by omega)
  refine En_iNe _ rfl rfl (fun h7 => ?_) (fun h7 => ?_)
  · refine En_Ps 1 (pc' := 19) (lv' := [(0, .int a), (1, .int b), (2, .int c)]) (st' := [.int ((Int32.ofInt 0))]) rfl ?_
    refine En_top (by decide : (Int32.ofInt 0).toInt = 0) (fun z8 h9 => ?_)
    exact En_ret (v := some (Value.int z8)) rfl rfl (retZ rfl rfl (by first | exact q_55451d0a83 h9 | omega) (by first | exact q_87849c3859 h9 | omega)) ⟨hσ0, hF0, z8, rfl, ⟨by first | exact q_097a37c2ae h9 | omega, by first | exact q_e269517bee h9 | omega, (by omega)⟩⟩
  · obtain ⟨h10, h11⟩ := andn_zero h5 h2 h7 rfl rfl (by omega)
    refine En_Ps 3 (pc' := 11) (lv' := [(0, .int a), (1, .int b), (2, .int c)]) (st' := [.int ((c &&& a))]) rfl ?_
    refine En_nam (fun z12 h13 => ?_)
    have h14 : z12.toInt = aN c.toInt a.toInt := and_v h13 rfl rfl (by omega) (by omega)
    have := aN_le (X := c.toInt) (Y := a.toInt) (by omega) (by omega)
    refine En_iNe _ rfl rfl (fun h15 => ?_) (fun h15 => ?_)
    · refine En_Ps 1 (pc' := 19) (lv' := [(0, .int a), (1, .int b), (2, .int c)]) (st' := [.int ((Int32.ofInt 0))]) rfl ?_
      refine En_top (by decide : (Int32.ofInt 0).toInt = 0) (fun z16 h17 => ?_)
      exact En_ret (v := some (Value.int z16)) rfl rfl (retZ rfl rfl (by first | exact q_55451d0a83 h17 | omega) (by first | exact q_87849c3859 h17 | omega)) ⟨hσ0, hF0, z16, rfl, ⟨by first | exact q_097a37c2ae h17 | omega, by first | exact q_e269517bee h17 | omega, (by omega)⟩⟩
    · refine En_Ps 2 (pc' := 19) (lv' := [(0, .int a), (1, .int b), (2, .int c)]) (st' := [.int ((Int32.ofInt 1))]) rfl ?_
      refine En_top (by decide : (Int32.ofInt 1).toInt = 1) (fun z18 h19 => ?_)
      exact En_ret (v := some (Value.int z18)) rfl rfl (retZ rfl rfl (by first | exact q_2b07c97645 h19 | omega) (by first | exact q_d9e7cbb253 h19 | omega)) ⟨hσ0, hF0, z18, rfl, ⟨by first | exact q_ad3eee31ca h19 | omega, by first | exact q_81cf297dc4 h19 | omega, (by omega)⟩⟩
/-- DoorSchool$Rules.first(II)I -/
abbrev P_78x (σ0 : SG) (a : Int32) (b : Int32) (rz : Int32) : PO := fun v σ => WT σ ∧ Fr [] σ0 σ ∧ ∃ ret : Int32, v = some (Value.int ret) ∧ -ret.toInt - 1 ≤ 0 ∧ ret.toInt - 80 ≤ 0 ∧ ret.toInt = FIR (fun i => AGP (ci σ0 7 i) a.toInt b.toInt) rz.toInt.toNat
set_option maxRecDepth 10000 in
set_option maxHeartbeats 4000000 in
theorem c_78x (σ0 : SG) (hσ0 : WT σ0) (a : Int32) (b : Int32) (hl_a : 0 ≤ a.toInt) (hu_a : a.toInt ≤ 65535) (hl_b : 0 ≤ b.toInt) (hu_b : b.toInt ≤ 65535) (rz : Int32) (h_rz : (σ0 4)[1]? = some (Value.int rz)) (hD : ∀ i : Int, 0 ≤ i → i < rz.toInt → 0 ≤ ci σ0 7 i ∧ ci σ0 7 i ≤ 65535) : En 1 22 none mr_78 (P_78x σ0 a b rz) 0 [(0, .ref 4), (1, .int a), (2, .int b)] [] σ0 := by
  obtain ⟨hl_rz, hu_rz⟩ := WT_int hσ0 (g := 4) (by decide +kernel) (by decide +kernel) (l := 0) (u := 81) (by decide +kernel) h_rz
  have hF0 : Fr [] σ0 σ0 := Fr_rfl
  refine En_Ps 2 (pc' := 2) (lv' := [(3, .int ((Int32.ofInt 0))), (0, .ref 4), (1, .int a), (2, .int b)]) (st' := []) rfl ?_
  have key2 : ∀ (n2 : Nat) (y1 : Int32), 0 ≤ y1.toInt → y1.toInt ≤ 81 → y1.toInt - rz.toInt ≤ 0 → rz.toInt - y1.toInt < (n2 : Int) → NOP (fun i => AGP (ci σ0 7 i) a.toInt b.toInt) y1.toInt → En 1 22 none mr_78 (P_78x σ0 a b rz) 2 [(0, .ref 4), (1, .int a), (2, .int b), (3, .int y1)] [] σ0 := by
    intro n2
    induction n2 with
    | zero =>
      intro y1 h5 h6 h7 h8 h9
      first | exact (q_14257feae7 h7 h8).elim | (exfalso; omega)
    | succ n2 ih2 =>
      intro y1 h5 h6 h7 h8 h9
      refine En_Ps 2 (pc' := 4) (lv' := [(0, .ref 4), (1, .int a), (2, .int b), (3, .int y1)]) (st' := [.ref 4, .int y1]) rfl ?_
      refine En_getK (j := 1) h_rz rfl rfl rfl tgz_4 (by decide +kernel) ?_
      refine En_icGe _ rfl rfl rfl (fun h10 => ?_) (fun h10 => ?_)
      · refine En_Ps 1 (pc' := 33) (lv' := [(0, .ref 4), (1, .int a), (2, .int b), (3, .int y1)]) (st' := [.int ((Int32.ofInt (-1)))]) rfl ?_
        refine En_top (by decide : (Int32.ofInt (-1)).toInt = -1) (fun z11 h12 => ?_)
        exact En_ret (v := some (Value.int z11)) rfl rfl rfl ⟨hσ0, hF0, z11, rfl, ⟨by first | exact q_6ba54b61e9 h12 | omega, by first | exact q_ed1bd306dd h12 | omega, NOP_n h9 (by omega) (by omega) (by omega)⟩⟩
      · refine En_Ps 1 (pc' := 11) (lv' := [(0, .ref 4), (1, .int a), (2, .int b), (3, .int y1)]) (st' := [.ref 4]) rfl ?_
        refine En_getU (j := 4) (u := 7) (g' := 7) (q := 0) rfl rfl rfl tgz_4 (by decide +kernel) hσ0 (by decide +kernel) un_7_7 (fun h13 => ?_)
        refine En_Ps 1 (pc' := 15) (lv' := [(0, .ref 4), (1, .int a), (2, .int b), (3, .int y1)]) (st' := [.int y1, .ref 7]) rfl ?_
        refine En_iald (l := (-2147483648)) (u := 2147483647) rfl rfl tgz_7 (by decide +kernel) hσ0 (by first | exact q_58e6e51dcc h5 | omega) (lnI (by decide +kernel : LN _ = 81) (by first | exact q_a0e855914a h10 hu_rz | omega)) (FTsgl (by decide +kernel)) (fun z16 h15 h17 h18 => ?_)
        have h19 : ci σ0 7 (y1.toInt) = z16.toInt := ci_at h15 rfl
        have h20 := hD y1.toInt (by omega) (by omega)
        refine En_Ps 2 (pc' := 18) (lv' := [(0, .ref 4), (1, .int a), (2, .int b), (3, .int y1)]) (st' := [.int b, .int a, .int z16]) rfl ?_
        refine En_callS rfl rfl rfl rfl rfl rfl rfl rfl rfl (c_100ax σ0 hσ0 z16 a b (geI rfl (by omega)) (leI rfl (by omega)) (geI rfl (by first | exact q_58e6e51dcc hl_a | omega)) (leI rfl (by first | exact q_36eb0a70bf hu_a | omega)) (geI rfl (by first | exact q_58e6e51dcc hl_b | omega)) (leI rfl (by first | exact q_36eb0a70bf hu_b | omega))) (by decide) (by decide) (fun v22 σ23 h21 => ?_)
        obtain ⟨h24, h25, z27, rfl, h26⟩ := h21
        have h28 := h26.2.2
        obtain rfl : σ0 = σ23 := Fr_nil h25
        refine En_iEq _ rfl rfl (fun h29 => ?_) (fun h29 => ?_)
        · refine En_Ps 1 (pc' := 29) (lv' := [(3, .int ((y1 + Int32.ofInt 1))), (0, .ref 4), (1, .int a), (2, .int b)]) (st' := []) rfl ?_
          refine En_lv1 (addI rfl (by decide : (Int32.ofInt 1).toInt = 1) (by first | exact q_465ab79ac1 h5 | omega) (by first | exact q_d778ff18c8 h6 | omega)) (fun z30 h31 => ?_)
          refine En_Ps 1 (pc' := 2) (lv' := [(3, .int z30), (0, .ref 4), (1, .int a), (2, .int b)]) (st' := []) rfl ?_
          refine En_lv (lv := [(0, .ref 4), (1, .int a), (2, .int b), (3, .int z30)]) ⟨rfl, rfl, rfl, rfl, trivial⟩ ?_
          exact ih2 z30 (by first | exact q_35104ce9d3 h31 h5 | omega) (by first | exact q_798b104d48 h31 h10 hu_rz | omega) (by first | exact q_ae2dbf4292 h10 h31 | omega) (by first | exact q_8d03a5a7cb h31 h8 | omega) (NOP_s h9 (AGP_no h19 (by omega)) (by omega))
        · refine En_Ps 1 (pc' := 25) (lv' := [(0, .ref 4), (1, .int a), (2, .int b), (3, .int y1)]) (st' := [.int y1]) rfl ?_
          exact En_ret (v := some (Value.int y1)) rfl rfl rfl ⟨hσ0, hF0, y1, rfl, ⟨by first | exact q_565e7b05df h5 | omega, by first | exact q_6b56ae27a7 h10 hu_rz | omega, NOP_y h9 (by omega) (AGP_of h19 (by omega) (by omega)) (by omega) (by omega)⟩⟩
  have := (by decide : (Int32.ofInt 0).toInt = 0)
  refine En_lv (lv := [(0, .ref 4), (1, .int a), (2, .int b), (3, .int ((Int32.ofInt 0)))]) ⟨rfl, rfl, rfl, rfl, trivial⟩ ?_
  exact key2 (Int.toNat (rz.toInt) + 1) ((Int32.ofInt 0)) (by decide) (by decide) (by omega) (by first | exact toN_lt _ | omega) (NOP_0 (by omega))
/-- DoorSchool$Lessons.said(I)I -/
abbrev P_39x (σ0 : SG) (s : Nat) (a : Int32) (kn : Nat) (op : Nat) (sz : Int32) : PO := fun v σ => WT σ ∧ Fr [] σ0 σ ∧ ∃ ret : Int32, v = some (Value.int ret) ∧ -ret.toInt ≤ 0 ∧ ret.toInt - 65535 ≤ 0 ∧ ret.toInt = SAI (ci σ0 kn) (ci σ0 op) a.toInt sz.toInt.toNat
set_option maxRecDepth 10000 in
set_option maxHeartbeats 4000000 in
theorem c_39x (σ0 : SG) (hσ0 : WT σ0) (s : Nat) (hs : TG s = 20) (a : Int32) (kn : Nat) (hkn : TG kn = 21) (h_kn : (σ0 s)[0]? = some (Value.ref kn)) (op : Nat) (hop : TG op = 22) (h_op : (σ0 s)[1]? = some (Value.ref op)) (sz : Int32) (h_sz : (σ0 s)[2]? = some (Value.int sz)) : En 0 0 none mr_39 (P_39x σ0 s a kn op sz) 0 [(0, .ref s), (1, .int a)] [] σ0 := by
  obtain ⟨hl_sz, hu_sz⟩ := WT_int hσ0 (g := 20) hs (by decide +kernel) (l := 0) (u := 13) (by decide +kernel) h_sz
  have hF0 : Fr [] σ0 σ0 := Fr_rfl
  refine En_Ps 4 (pc' := 4) (lv' := [(3, .int ((Int32.ofInt 0))), (2, .int ((Int32.ofInt 0))), (0, .ref s), (1, .int a)]) (st' := []) rfl ?_
  have key4 : ∀ (n4 : Nat) (y1 : Int32) (y2 : Int32), 0 ≤ y1.toInt → y1.toInt ≤ 65535 → 0 ≤ y2.toInt → y2.toInt ≤ 13 → y2.toInt - sz.toInt ≤ 0 → sz.toInt - y2.toInt < (n4 : Int) → y1.toInt = SAI (ci σ0 kn) (ci σ0 op) a.toInt (y2.toInt).toNat → En 0 0 none mr_39 (P_39x σ0 s a kn op sz) 4 [(0, .ref s), (1, .int a), (2, .int y1), (3, .int y2)] [] σ0 := by
    intro n4
    induction n4 with
    | zero =>
      intro y1 y2 h6 h7 h8 h9 h10 h11 h12
      first | exact (q_14257feae7 h10 h11).elim | (exfalso; omega)
    | succ n4 ih4 =>
      intro y1 y2 h6 h7 h8 h9 h10 h11 h12
      refine En_Ps 2 (pc' := 6) (lv' := [(0, .ref s), (1, .int a), (2, .int y1), (3, .int y2)]) (st' := [.ref s, .int y2]) rfl ?_
      refine En_getK (j := 2) h_sz rfl rfl rfl hs (by decide +kernel) ?_
      refine En_icGe _ rfl rfl rfl (fun h13 => ?_) (fun h13 => ?_)
      · refine En_Ps 1 (pc' := 40) (lv' := [(0, .ref s), (1, .int a), (2, .int y1), (3, .int y2)]) (st' := [.int y1]) rfl ?_
        exact En_ret (v := some (Value.int y1)) rfl rfl rfl ⟨hσ0, hF0, y1, rfl, ⟨by first | exact q_c803b490ef h6 | omega, by first | exact q_e7edf0f95a h7 | omega, SAI_e h12 (by omega) (by omega)⟩⟩
      · refine En_Ps 1 (pc' := 13) (lv' := [(0, .ref s), (1, .int a), (2, .int y1), (3, .int y2)]) (st' := [.ref s]) rfl ?_
        refine En_getK (j := 1) h_op rfl rfl rfl hs (by decide +kernel) ?_
        refine En_Ps 1 (pc' := 17) (lv' := [(0, .ref s), (1, .int a), (2, .int y1), (3, .int y2)]) (st' := [.int y2, .ref op]) rfl ?_
        refine En_iald (l := 0) (u := 1) rfl rfl hop (by decide +kernel) hσ0 (by first | exact q_58e6e51dcc h8 | omega) (lnI (by decide +kernel : LN _ = 13) (by first | exact q_314deb8953 h13 hu_sz | omega)) (FTsgl (by decide +kernel)) (fun z15 h14 h16 h17 => ?_)
        have h18 : ci σ0 op (y2.toInt) = z15.toInt := ci_at h14 rfl
        refine En_Ps 1 (pc' := 19) (lv' := [(0, .ref s), (1, .int a), (2, .int y1), (3, .int y2)]) (st' := [.int a, .int z15]) rfl ?_
        refine En_icNe _ rfl rfl rfl (fun h19 => ?_) (fun h19 => ?_)
        · refine En_Ps 1 (pc' := 36) (lv' := [(3, .int ((y2 + Int32.ofInt 1))), (0, .ref s), (1, .int a), (2, .int y1)]) (st' := []) rfl ?_
          refine En_lv1 (addI rfl (by decide : (Int32.ofInt 1).toInt = 1) (by first | exact q_465ab79ac1 h8 | omega) (by first | exact q_d22f73d43b h9 | omega)) (fun z20 h21 => ?_)
          refine En_Ps 1 (pc' := 4) (lv' := [(3, .int z20), (0, .ref s), (1, .int a), (2, .int y1)]) (st' := []) rfl ?_
          refine En_lv (lv := [(0, .ref s), (1, .int a), (2, .int y1), (3, .int z20)]) ⟨rfl, rfl, rfl, rfl, trivial⟩ ?_
          exact ih4 y1 z20 (by first | exact q_58e6e51dcc h6 | omega) (by first | exact q_36eb0a70bf h7 | omega) (by first | exact q_35104ce9d3 h21 h8 | omega) (by first | exact q_96e029a9d9 h21 h13 hu_sz | omega) (by first | exact q_ae2dbf4292 h13 h21 | omega) (by first | exact q_8d03a5a7cb h21 h11 | omega) (SAI_n (by omega) h12 (by omega) (by omega) (by omega))
        · refine En_Ps 3 (pc' := 25) (lv' := [(0, .ref s), (1, .int a), (2, .int y1), (3, .int y2)]) (st' := [.ref s, .int ((Int32.ofInt 1)), .int y1]) rfl ?_
          refine En_getK (j := 0) h_kn rfl rfl rfl hs (by decide +kernel) ?_
          refine En_Ps 1 (pc' := 29) (lv' := [(0, .ref s), (1, .int a), (2, .int y1), (3, .int y2)]) (st' := [.int y2, .ref kn, .int ((Int32.ofInt 1)), .int y1]) rfl ?_
          refine En_iald (l := 0) (u := 15) rfl rfl hkn (by decide +kernel) hσ0 (by first | exact q_58e6e51dcc h8 | omega) (lnI (by decide +kernel : LN _ = 13) (by first | exact q_314deb8953 h13 hu_sz | omega)) (FTsgl (by decide +kernel)) (fun z23 h22 h24 h25 => ?_)
          have h26 : ci σ0 kn (y2.toInt) = z23.toInt := ci_at h22 rfl
          refine En_Ps 1 (pc' := 31) (lv' := [(0, .ref s), (1, .int a), (2, .int y1), (3, .int y2)]) (st' := [.int ((((Int32.ofInt 1)) <<< (z23 &&& 31))), .int y1]) rfl ?_
          refine En_nam (fun z27 h28 => ?_)
          have h29 : z27.toInt = pI z23.toInt := shl_v h28 rfl (by omega) (by omega)
          have := pI_pos z23.toInt
          have : pI z23.toInt ≤ 32768 := pI_mono (Y := 15) (by omega)
          refine En_Ps 1 (pc' := 32) (lv' := [(0, .ref s), (1, .int a), (2, .int y1), (3, .int y2)]) (st' := [.int ((y1 ||| z27))]) rfl ?_
          refine En_nam (fun z30 h31 => ?_)
          have h32 : z30.toInt = oN y1.toInt z27.toInt := or_v h31 rfl rfl (by omega) (by omega)
          have := oN_lt (X := y1.toInt) (Y := z27.toInt) 16 (by omega) (by omega) (Int.lt_of_le_of_lt (by omega : _ ≤ (65535 : Int)) (by decide)) (Int.lt_of_le_of_lt (by omega : _ ≤ (65535 : Int)) (by decide))
          have two16 : ((2 ^ 16 : Nat) : Int) = 65536 := by decide
          refine En_Ps 2 (pc' := 36) (lv' := [(3, .int ((y2 + Int32.ofInt 1))), (2, .int z30), (0, .ref s), (1, .int a)]) (st' := []) rfl ?_
          refine En_lv1 (addI rfl (by decide : (Int32.ofInt 1).toInt = 1) (by first | exact q_465ab79ac1 h8 | omega) (by first | exact q_d22f73d43b h9 | omega)) (fun z33 h34 => ?_)
          refine En_Ps 1 (pc' := 4) (lv' := [(3, .int z33), (2, .int z30), (0, .ref s), (1, .int a)]) (st' := []) rfl ?_
          refine En_lv (lv := [(0, .ref s), (1, .int a), (2, .int z30), (3, .int z33)]) ⟨rfl, rfl, rfl, rfl, trivial⟩ ?_
          exact ih4 z30 z33 (by omega) (by omega) (by first | exact q_35104ce9d3 h34 h8 | omega) (by first | exact q_96e029a9d9 h34 h13 hu_sz | omega) (by first | exact q_ae2dbf4292 h13 h34 | omega) (by first | exact q_8d03a5a7cb h34 h11 | omega) (SAI_y (q := z27.toInt) (by omega) h12 (by omega) h26 (by omega) (by omega) (by omega))
  have := (by decide : (Int32.ofInt 0).toInt = 0)
  have := (by decide : (Int32.ofInt 0).toInt = 0)
  refine En_lv (lv := [(0, .ref s), (1, .int a), (2, .int ((Int32.ofInt 0))), (3, .int ((Int32.ofInt 0)))]) ⟨rfl, rfl, rfl, rfl, trivial⟩ ?_
  exact key4 (Int.toNat (sz.toInt) + 1) ((Int32.ofInt 0)) ((Int32.ofInt 0)) (by decide) (by decide) (by decide) (by decide) (by omega) (by first | exact toN_lt _ | omega) (SAI_0 (by omega) (by omega))
/-- DoorSchool$Lessons.latestOf(I)I -/
abbrev P_36x (σ0 : SG) (s : Nat) (a : Int32) (kn : Nat) (op : Nat) (sz : Int32) : PO := fun v σ => WT σ ∧ Fr [] σ0 σ ∧ ∃ ret : Int32, v = some (Value.int ret) ∧ -ret.toInt - 1 ≤ 0 ∧ ret.toInt - 12 ≤ 0 ∧ ret.toInt = LAT (ci σ0 kn) a.toInt sz.toInt.toNat
set_option maxRecDepth 10000 in
set_option maxHeartbeats 4000000 in
theorem c_36x (σ0 : SG) (hσ0 : WT σ0) (s : Nat) (hs : TG s = 20) (a : Int32) (kn : Nat) (hkn : TG kn = 21) (h_kn : (σ0 s)[0]? = some (Value.ref kn)) (op : Nat) (hop : TG op = 22) (h_op : (σ0 s)[1]? = some (Value.ref op)) (sz : Int32) (h_sz : (σ0 s)[2]? = some (Value.int sz)) : En 0 0 none mr_36 (P_36x σ0 s a kn op sz) 0 [(0, .ref s), (1, .int a)] [] σ0 := by
  obtain ⟨hl_sz, hu_sz⟩ := WT_int hσ0 (g := 20) hs (by decide +kernel) (l := 0) (u := 13) (by decide +kernel) h_sz
  have hF0 : Fr [] σ0 σ0 := Fr_rfl
  refine En_Ps 1 (pc' := 1) (lv' := [(0, .ref s), (1, .int a)]) (st' := [.ref s]) rfl ?_
  refine En_getK (j := 2) h_sz rfl rfl rfl hs (by decide +kernel) ?_
  refine En_Ps 2 (pc' := 6) (lv' := [(0, .ref s), (1, .int a)]) (st' := [.int ((sz - ((Int32.ofInt 1))))]) rfl ?_
  refine En_top (subI rfl (by decide : (Int32.ofInt 1).toInt = 1) (by first | exact q_93f9478bef hl_sz | omega) (by first | exact q_36ce509e97 hu_sz | omega)) (fun z1 h2 => ?_)
  refine En_Ps 1 (pc' := 7) (lv' := [(2, .int z1), (0, .ref s), (1, .int a)]) (st' := []) rfl ?_
  have key7 : ∀ (n7 : Nat) (y3 : Int32), (-1) ≤ y3.toInt → y3.toInt ≤ 12 → y3.toInt - sz.toInt + 1 ≤ 0 → y3.toInt + 1 < (n7 : Int) → LTI (ci σ0 kn) a.toInt y3.toInt sz.toInt → En 0 0 none mr_36 (P_36x σ0 s a kn op sz) 7 [(0, .ref s), (1, .int a), (2, .int y3)] [] σ0 := by
    intro n7
    induction n7 with
    | zero =>
      intro y3 h7 h8 h9 h10 h11
      first | exact (q_d30ca37d8c h7 h10).elim | (exfalso; omega)
    | succ n7 ih7 =>
      intro y3 h7 h8 h9 h10 h11
      refine En_Ps 1 (pc' := 8) (lv' := [(0, .ref s), (1, .int a), (2, .int y3)]) (st' := [.int y3]) rfl ?_
      refine En_iLt _ rfl rfl (fun h12 => ?_) (fun h12 => ?_)
      · refine En_Ps 1 (pc' := 30) (lv' := [(0, .ref s), (1, .int a), (2, .int y3)]) (st' := [.int ((Int32.ofInt (-1)))]) rfl ?_
        refine En_top (by decide : (Int32.ofInt (-1)).toInt = -1) (fun z13 h14 => ?_)
        exact En_ret (v := some (Value.int z13)) rfl rfl rfl ⟨hσ0, hF0, z13, rfl, ⟨by first | exact q_6ba54b61e9 h14 | omega, by first | exact q_af8bea0708 h14 | omega, LAT_n h11 (by omega) (by omega) (by omega)⟩⟩
      · refine En_Ps 1 (pc' := 12) (lv' := [(0, .ref s), (1, .int a), (2, .int y3)]) (st' := [.ref s]) rfl ?_
        refine En_getK (j := 0) h_kn rfl rfl rfl hs (by decide +kernel) ?_
        refine En_Ps 1 (pc' := 16) (lv' := [(0, .ref s), (1, .int a), (2, .int y3)]) (st' := [.int y3, .ref kn]) rfl ?_
        refine En_iald (l := 0) (u := 15) rfl rfl hkn (by decide +kernel) hσ0 (by first | exact q_58e6e51dcc h12 | omega) (lnI (by decide +kernel : LN _ = 13) (by first | exact q_eca5b91a1e h8 | omega)) (FTsgl (by decide +kernel)) (fun z16 h15 h17 h18 => ?_)
        have h19 : ci σ0 kn (y3.toInt) = z16.toInt := ci_at h15 rfl
        refine En_Ps 1 (pc' := 18) (lv' := [(0, .ref s), (1, .int a), (2, .int y3)]) (st' := [.int a, .int z16]) rfl ?_
        refine En_icNe _ rfl rfl rfl (fun h20 => ?_) (fun h20 => ?_)
        · refine En_Ps 1 (pc' := 26) (lv' := [(2, .int ((y3 + Int32.ofInt (-1)))), (0, .ref s), (1, .int a)]) (st' := []) rfl ?_
          refine En_lv1 (addI rfl (by decide : (Int32.ofInt (-1)).toInt = -1) (by first | exact q_069e58d060 h12 | omega) (by first | exact q_22df3f42b4 h8 | omega)) (fun z21 h22 => ?_)
          refine En_Ps 1 (pc' := 7) (lv' := [(2, .int z21), (0, .ref s), (1, .int a)]) (st' := []) rfl ?_
          refine En_lv (lv := [(0, .ref s), (1, .int a), (2, .int z21)]) ⟨rfl, rfl, rfl, trivial⟩ ?_
          exact ih7 z21 (by first | exact q_1dc8c15c2b h22 h12 | omega) (by first | exact q_bf87cd541d h22 h8 | omega) (by first | exact q_ad24c9502e h9 h22 | omega) (by first | exact q_03fcbe2dc3 h22 h10 | omega) (LTI_s h11 (by omega) (by omega))
        · refine En_Ps 1 (pc' := 22) (lv' := [(0, .ref s), (1, .int a), (2, .int y3)]) (st' := [.int y3]) rfl ?_
          exact En_ret (v := some (Value.int y3)) rfl rfl rfl ⟨hσ0, hF0, y3, rfl, ⟨by first | exact q_565e7b05df h12 | omega, by first | exact q_16c941e15c h8 | omega, LAT_y h11 (by omega) (by omega) (by omega) (by omega)⟩⟩
  refine En_lv (lv := [(0, .ref s), (1, .int a), (2, .int z1)]) ⟨rfl, rfl, rfl, trivial⟩ ?_
  exact key7 (Int.toNat (z1.toInt + 1) + 1) z1 (by first | exact q_e2c277696c h2 hl_sz | omega) (by first | exact q_c1a695b5f4 h2 hu_sz | omega) (by first | exact q_8e6f8e4fd9 h2 | omega) (by first | exact toN_lt _ | omega) (LTI_0 (by omega))
/-- DoorSchool$Lessons.nearestTo(I)I -/
abbrev P_37x (σ0 : SG) (s : Nat) (a : Int32) (kn : Nat) (op : Nat) (sz : Int32) : PO := fun v σ => WT σ ∧ Fr [] σ0 σ ∧ ∃ ret : Int32, v = some (Value.int ret) ∧ -ret.toInt - 1 ≤ 0 ∧ ret.toInt - 12 ≤ 0 ∧ ret.toInt = NER (ci σ0 kn) a.toInt sz.toInt.toNat
set_option maxRecDepth 10000 in
set_option maxHeartbeats 4000000 in
theorem c_37x (σ0 : SG) (hσ0 : WT σ0) (s : Nat) (hs : TG s = 20) (a : Int32) (hl_a : 0 ≤ a.toInt) (hu_a : a.toInt ≤ 15) (kn : Nat) (hkn : TG kn = 21) (h_kn : (σ0 s)[0]? = some (Value.ref kn)) (op : Nat) (hop : TG op = 22) (h_op : (σ0 s)[1]? = some (Value.ref op)) (sz : Int32) (h_sz : (σ0 s)[2]? = some (Value.int sz)) : En 1 20 none mr_37 (P_37x σ0 s a kn op sz) 0 [(0, .ref s), (1, .int a)] [] σ0 := by
  obtain ⟨hl_sz, hu_sz⟩ := WT_int hσ0 (g := 20) hs (by decide +kernel) (l := 0) (u := 13) (by decide +kernel) h_sz
  have hF0 : Fr [] σ0 σ0 := Fr_rfl
  refine En_Ps 6 (pc' := 7) (lv' := [(4, .int ((Int32.ofInt 0))), (3, .int ((Int32.ofInt 5))), (2, .int ((Int32.ofInt (-1)))), (0, .ref s), (1, .int a)]) (st' := []) rfl ?_
  have key7 : ∀ (n7 : Nat) (y1 : Int32) (y2 : Int32) (y3 : Int32), (-1) ≤ y1.toInt → y1.toInt ≤ 12 → 0 ≤ y2.toInt → y2.toInt ≤ 5 → 0 ≤ y3.toInt → y3.toInt ≤ 13 → y3.toInt - sz.toInt ≤ 0 → y1.toInt - y3.toInt + 1 ≤ 0 → sz.toInt - y3.toInt < (n7 : Int) → NEC (ci σ0 kn) a.toInt y3.toInt y1.toInt y2.toInt → En 1 20 none mr_37 (P_37x σ0 s a kn op sz) 7 [(0, .ref s), (1, .int a), (2, .int y1), (3, .int y2), (4, .int y3)] [] σ0 := by
    intro n7
    induction n7 with
    | zero =>
      intro y1 y2 y3 h7 h8 h9 h10 h11 h12 h13 h14 h15 h16
      first | exact (q_14257feae7 h13 h15).elim | (exfalso; omega)
    | succ n7 ih7 =>
      intro y1 y2 y3 h7 h8 h9 h10 h11 h12 h13 h14 h15 h16
      refine En_Ps 2 (pc' := 10) (lv' := [(0, .ref s), (1, .int a), (2, .int y1), (3, .int y2), (4, .int y3)]) (st' := [.ref s, .int y3]) rfl ?_
      refine En_getK (j := 2) h_sz rfl rfl rfl hs (by decide +kernel) ?_
      refine En_icGe _ rfl rfl rfl (fun h17 => ?_) (fun h17 => ?_)
      · refine En_Ps 1 (pc' := 49) (lv' := [(0, .ref s), (1, .int a), (2, .int y1), (3, .int y2), (4, .int y3)]) (st' := [.int y1]) rfl ?_
        exact En_ret (v := some (Value.int y1)) rfl rfl rfl ⟨hσ0, hF0, y1, rfl, ⟨by first | exact q_909eef6c0e h7 | omega, by first | exact q_16c941e15c h8 | omega, NER_e h16.1 (by omega) (by omega)⟩⟩
      · refine En_Ps 1 (pc' := 17) (lv' := [(0, .ref s), (1, .int a), (2, .int y1), (3, .int y2), (4, .int y3)]) (st' := [.ref s]) rfl ?_
        refine En_getK (j := 0) h_kn rfl rfl rfl hs (by decide +kernel) ?_
        refine En_Ps 1 (pc' := 22) (lv' := [(0, .ref s), (1, .int a), (2, .int y1), (3, .int y2), (4, .int y3)]) (st' := [.int y3, .ref kn]) rfl ?_
        refine En_iald (l := 0) (u := 15) rfl rfl hkn (by decide +kernel) hσ0 (by first | exact q_58e6e51dcc h11 | omega) (lnI (by decide +kernel : LN _ = 13) (by first | exact q_314deb8953 h17 hu_sz | omega)) (FTsgl (by decide +kernel)) (fun z19 h18 h20 h21 => ?_)
        have h22 : ci σ0 kn (y3.toInt) = z19.toInt := ci_at h18 rfl
        refine En_Ps 2 (pc' := 25) (lv' := [(0, .ref s), (1, .int a), (2, .int y1), (3, .int y2), (4, .int y3)]) (st' := [.int ((z19 ^^^ a))]) rfl ?_
        refine En_nam (fun z23 h24 => ?_)
        have h25 : z23.toInt = xN z19.toInt a.toInt := xor_v h24 rfl rfl (by omega) (by omega)
        have := xN_lt (X := z19.toInt) (Y := a.toInt) 4 (by omega) (by omega) (Int.lt_of_le_of_lt (by omega : _ ≤ (15 : Int)) (by decide)) (Int.lt_of_le_of_lt (by omega : _ ≤ (15 : Int)) (by decide))
        have two4 : ((2 ^ 4 : Nat) : Int) = 16 := by decide
        refine En_callS rfl rfl rfl rfl rfl rfl rfl rfl rfl (c_7ax σ0 hσ0 z23 (geI rfl (by omega)) (leI rfl (by omega))) (by decide) (by decide) (fun v27 σ28 h26 => ?_)
        obtain ⟨h29, h30, z32, rfl, h31⟩ := h26
        have h33 := h31.2.2
        obtain rfl : σ0 = σ28 := Fr_nil h30
        refine En_Ps 3 (pc' := 33) (lv' := [(5, .int z32), (0, .ref s), (1, .int a), (2, .int y1), (3, .int y2), (4, .int y3)]) (st' := [.int y2, .int z32]) rfl ?_
        refine En_icGe _ rfl rfl rfl (fun h34 => ?_) (fun h34 => ?_)
        · refine En_Ps 1 (pc' := 45) (lv' := [(4, .int ((y3 + Int32.ofInt 1))), (5, .int z32), (0, .ref s), (1, .int a), (2, .int y1), (3, .int y2)]) (st' := []) rfl ?_
          refine En_lv1 (addI rfl (by decide : (Int32.ofInt 1).toInt = 1) (by first | exact q_465ab79ac1 h11 | omega) (by first | exact q_d22f73d43b h12 | omega)) (fun z35 h36 => ?_)
          refine En_Ps 1 (pc' := 7) (lv' := [(4, .int z35), (5, .int z32), (0, .ref s), (1, .int a), (2, .int y1), (3, .int y2)]) (st' := []) rfl ?_
          refine En_lv (lv := [(0, .ref s), (1, .int a), (2, .int y1), (3, .int y2), (4, .int z35)]) ⟨rfl, rfl, rfl, rfl, rfl, trivial⟩ ?_
          exact ih7 y1 y2 z35 (by first | exact q_77b189e83d h7 | omega) (by first | exact q_7c77837619 h8 | omega) (by first | exact q_58e6e51dcc h9 | omega) (by first | exact q_d9092b5ca1 h10 | omega) (by first | exact q_35104ce9d3 h36 h11 | omega) (by first | exact q_96e029a9d9 h36 h17 hu_sz | omega) (by first | exact q_ae2dbf4292 h17 h36 | omega) (by first | exact q_6591527e3e h14 h36 | omega) (by first | exact q_8d03a5a7cb h36 h15 | omega) ((by first | exact NEC_y (q := z23.toInt) (u := z32.toInt) h16 (by omega) h22 (by omega) (by omega) (by omega) (by omega) (by omega) (by omega) | exact NEC_n (q := z23.toInt) (u := z32.toInt) h16 (by omega) h22 (by omega) (by omega) (by omega) (by omega) (by omega) (by omega)))
        · refine En_Ps 5 (pc' := 45) (lv' := [(4, .int ((y3 + Int32.ofInt 1))), (2, .int y3), (3, .int z32), (5, .int z32), (0, .ref s), (1, .int a)]) (st' := []) rfl ?_
          refine En_lv1 (addI rfl (by decide : (Int32.ofInt 1).toInt = 1) (by first | exact q_465ab79ac1 h11 | omega) (by first | exact q_d22f73d43b h12 | omega)) (fun z37 h38 => ?_)
          refine En_Ps 1 (pc' := 7) (lv' := [(4, .int z37), (2, .int y3), (3, .int z32), (5, .int z32), (0, .ref s), (1, .int a)]) (st' := []) rfl ?_
          refine En_lv (lv := [(0, .ref s), (1, .int a), (2, .int y3), (3, .int z32), (4, .int z37)]) ⟨rfl, rfl, rfl, rfl, rfl, trivial⟩ ?_
          exact ih7 y3 z32 z37 (by first | exact q_5b439548fc h11 | omega) (by first | exact q_e87ca26de6 h17 hu_sz | omega) (by first | exact q_ef1e8e38bf h31.1 | omega) (by first | exact q_e0818437e3 h31.2.1 | omega) (by first | exact q_35104ce9d3 h38 h11 | omega) (by first | exact q_96e029a9d9 h38 h17 hu_sz | omega) (by first | exact q_ae2dbf4292 h17 h38 | omega) (by first | exact q_2fedec469a h38 | omega) (by first | exact q_8d03a5a7cb h38 h15 | omega) ((by first | exact NEC_y (q := z23.toInt) (u := z32.toInt) h16 (by omega) h22 (by omega) (by omega) (by omega) (by omega) (by omega) (by omega) | exact NEC_n (q := z23.toInt) (u := z32.toInt) h16 (by omega) h22 (by omega) (by omega) (by omega) (by omega) (by omega) (by omega)))
  have := (by decide : (Int32.ofInt (-1)).toInt = -1)
  have := (by decide : (Int32.ofInt 5).toInt = 5)
  have := (by decide : (Int32.ofInt 0).toInt = 0)
  refine En_lv (lv := [(0, .ref s), (1, .int a), (2, .int ((Int32.ofInt (-1)))), (3, .int ((Int32.ofInt 5))), (4, .int ((Int32.ofInt 0)))]) ⟨rfl, rfl, rfl, rfl, rfl, trivial⟩ ?_
  exact key7 (Int.toNat (sz.toInt) + 1) ((Int32.ofInt (-1))) ((Int32.ofInt 5)) ((Int32.ofInt 0)) (by decide) (by decide) (by decide) (by decide) (by decide) (by decide) (by omega) (by omega) (by first | exact toN_lt _ | omega) (NEC_0 (by omega) (by omega) (by omega))
/-- DoorSchool$Learner.learn(ILDoorSchool$Lessons;)I -/
abbrev P_22x (σ0 : SG) (a : Int32) (b : Nat) (kn : Nat) (op : Nat) (sz : Int32) (kk : Int32) (rz : Int32) : PO := fun v σ => WT σ ∧ Fr [] σ0 σ ∧ ∃ ret : Int32, v = some (Value.int ret) ∧ ret.toInt = LRN a.toInt kk.toInt rz.toInt sz.toInt (ci σ0 kn) (ci σ0 op) (ci σ0 7)
set_option maxRecDepth 10000 in
set_option maxHeartbeats 4000000 in
theorem c_22x (σ0 : SG) (hσ0 : WT σ0) (a : Int32) (b : Nat) (hb : TG b = 20) (hl_a : 0 ≤ a.toInt) (hu_a : a.toInt ≤ 2) (kn : Nat) (hkn : TG kn = 21) (h_kn : (σ0 b)[0]? = some (Value.ref kn)) (op : Nat) (hop : TG op = 22) (h_op : (σ0 b)[1]? = some (Value.ref op)) (sz : Int32) (h_sz : (σ0 b)[2]? = some (Value.int sz)) (kk : Int32) (h_kk : (σ0 4)[0]? = some (Value.int kk)) (rz : Int32) (h_rz : (σ0 4)[1]? = some (Value.int rz)) (hD : ∀ i : Int, 0 ≤ i → i < rz.toInt → 0 ≤ ci σ0 7 i ∧ ci σ0 7 i ≤ 65535) : En 2 45 none mr_22 (P_22x σ0 a b kn op sz kk rz) 0 [(0, .ref 8), (1, .int a), (2, .ref b)] [] σ0 := by
  obtain ⟨hl_sz, hu_sz⟩ := WT_int hσ0 (g := 20) hb (by decide +kernel) (l := 0) (u := 13) (by decide +kernel) h_sz
  obtain ⟨hl_kk, hu_kk⟩ := WT_int hσ0 (g := 4) (by decide +kernel) (by decide +kernel) (l := 0) (u := 16) (by decide +kernel) h_kk
  obtain ⟨hl_rz, hu_rz⟩ := WT_int hσ0 (g := 4) (by decide +kernel) (by decide +kernel) (l := 0) (u := 81) (by decide +kernel) h_rz
  have hF0 : Fr [] σ0 σ0 := Fr_rfl
  refine En_Ps 2 (pc' := 2) (lv' := [(0, .ref 8), (1, .int a), (2, .ref b)]) (st' := [.int ((Int32.ofInt 1)), .int a]) rfl ?_
  refine En_icNe _ rfl (by decide : (Int32.ofInt 1).toInt = 1) rfl (fun h1 => ?_) (fun h1 => ?_)
  · refine En_Ps 4 (pc' := 47) (lv' := [(4, .int ((Int32.ofInt 0))), (3, .int ((Int32.ofInt 0))), (0, .ref 8), (1, .int a), (2, .ref b)]) (st' := []) rfl ?_
    have key47 : ∀ (n47 : Nat) (y2 : Int32) (y3 : Int32), 0 ≤ y2.toInt → y2.toInt ≤ 65535 → 0 ≤ y3.toInt → y3.toInt ≤ 16 → y3.toInt - kk.toInt ≤ 0 → kk.toInt - y3.toInt < (n47 : Int) → y2.toInt = LBT a.toInt (ci σ0 kn) (ci σ0 op) sz.toInt (y3.toInt).toNat → En 2 45 none mr_22 (P_22x σ0 a b kn op sz kk rz) 47 [(0, .ref 8), (1, .int a), (2, .ref b), (3, .int y2), (4, .int y3)] [] σ0 := by
      intro n47
      induction n47 with
      | zero =>
        intro y2 y3 h7 h8 h9 h10 h11 h12 h13
        first | exact (q_14257feae7 h11 h12).elim | (exfalso; omega)
      | succ n47 ih47 =>
        intro y2 y3 h7 h8 h9 h10 h11 h12 h13
        refine En_Ps 2 (pc' := 50) (lv' := [(0, .ref 8), (1, .int a), (2, .ref b), (3, .int y2), (4, .int y3)]) (st' := [.ref 8, .int y3]) rfl ?_
        refine En_getU (j := 0) (u := 4) (g' := 4) (q := 0) rfl rfl rfl tgz_8 (by decide +kernel) hσ0 (by decide +kernel) un_4_4 (fun h14 => ?_)
        refine En_getK (j := 0) h_kk rfl rfl rfl tgz_4 (by decide +kernel) ?_
        refine En_icGe _ rfl rfl rfl (fun h16 => ?_) (fun h16 => ?_)
        · refine En_Ps 1 (pc' := 111) (lv' := [(0, .ref 8), (1, .int a), (2, .ref b), (3, .int y2), (4, .int y3)]) (st' := [.int y2]) rfl ?_
          exact En_ret (v := some (Value.int y2)) rfl rfl rfl ⟨hσ0, hF0, y2, rfl, LRN_2 (by omega) (LBT_e h13 (by omega) (by omega))⟩
        · refine En_Ps 1 (pc' := 60) (lv' := [(0, .ref 8), (1, .int a), (2, .ref b), (3, .int y2), (4, .int y3)]) (st' := [.int a]) rfl ?_
          refine En_iNe _ rfl rfl (fun h17 => ?_) (fun h17 => ?_)
          · refine En_Ps 2 (pc' := 75) (lv' := [(0, .ref 8), (1, .int a), (2, .ref b), (3, .int y2), (4, .int y3)]) (st' := [.int y3, .ref b]) rfl ?_
            refine En_callV rfl rfl rfl rfl rfl rfl rfl rfl hb (by decide +kernel) rfl (c_37x σ0 hσ0 b hb y3 (geI rfl (by first | exact q_58e6e51dcc h9 | omega)) (leI rfl (by first | exact q_3f0e495169 h16 hu_kk | omega)) kn hkn h_kn op hop h_op sz h_sz) (by decide) (by decide) (fun v19 σ20 h18 => ?_)
            obtain ⟨h21, h22, z24, rfl, h23⟩ := h18
            have h25 := h23.2.2
            obtain rfl : σ0 = σ20 := Fr_nil h22
            have h26 : z24.toInt = BYL a.toInt (ci σ0 kn) sz.toInt y3.toInt := BYL_2 (by omega) h25
            refine En_Ps 3 (pc' := 83) (lv' := [(5, .int z24), (0, .ref 8), (1, .int a), (2, .ref b), (3, .int y2), (4, .int y3)]) (st' := [.int ((Int32.ofInt (-1))), .int z24]) rfl ?_
            refine En_icEq _ rfl (by decide : (Int32.ofInt (-1)).toInt = -1) rfl (fun h27 => ?_) (fun h27 => ?_)
            · refine En_Ps 1 (pc' := 107) (lv' := [(4, .int ((y3 + Int32.ofInt 1))), (5, .int z24), (0, .ref 8), (1, .int a), (2, .ref b), (3, .int y2)]) (st' := []) rfl ?_
              refine En_lv1 (addI rfl (by decide : (Int32.ofInt 1).toInt = 1) (by first | exact q_465ab79ac1 h9 | omega) (by first | exact q_f3f8e04381 h10 | omega)) (fun z28 h29 => ?_)
              refine En_Ps 1 (pc' := 47) (lv' := [(4, .int z28), (5, .int z24), (0, .ref 8), (1, .int a), (2, .ref b), (3, .int y2)]) (st' := []) rfl ?_
              refine En_lv (lv := [(0, .ref 8), (1, .int a), (2, .ref b), (3, .int y2), (4, .int z28)]) ⟨rfl, rfl, rfl, rfl, rfl, trivial⟩ ?_
              exact ih47 y2 z28 (by first | exact q_58e6e51dcc h7 | omega) (by first | exact q_36eb0a70bf h8 | omega) (by first | exact q_35104ce9d3 h29 h9 | omega) (by first | exact q_eba8fd3b5f h29 h16 hu_kk | omega) (by first | exact q_ae2dbf4292 h16 h29 | omega) (by first | exact q_8d03a5a7cb h29 h12 | omega) (LBT_n (by omega) h13 h26 (by omega) (by omega) (by omega))
            · refine En_Ps 1 (pc' := 87) (lv' := [(5, .int z24), (0, .ref 8), (1, .int a), (2, .ref b), (3, .int y2), (4, .int y3)]) (st' := [.ref b]) rfl ?_
              refine En_getK (j := 1) h_op rfl rfl rfl hb (by decide +kernel) ?_
              refine En_Ps 1 (pc' := 92) (lv' := [(5, .int z24), (0, .ref 8), (1, .int a), (2, .ref b), (3, .int y2), (4, .int y3)]) (st' := [.int z24, .ref op]) rfl ?_
              refine En_iald (l := 0) (u := 1) rfl rfl hop (by decide +kernel) hσ0 (by first | exact q_b1cade0df5 h27 h23.1 | omega) (lnI (by decide +kernel : LN _ = 13) (by first | exact q_f3cf35f0f9 h23.2.1 | omega)) (FTsgl (by decide +kernel)) (fun z31 h30 h32 h33 => ?_)
              have h34 : ci σ0 op (z24.toInt) = z31.toInt := ci_at h30 rfl
              refine En_Ps 1 (pc' := 94) (lv' := [(5, .int z24), (0, .ref 8), (1, .int a), (2, .ref b), (3, .int y2), (4, .int y3)]) (st' := [.int ((Int32.ofInt 1)), .int z31]) rfl ?_
              refine En_icNe _ rfl (by decide : (Int32.ofInt 1).toInt = 1) rfl (fun h35 => ?_) (fun h35 => ?_)
              · refine En_Ps 1 (pc' := 107) (lv' := [(4, .int ((y3 + Int32.ofInt 1))), (5, .int z24), (0, .ref 8), (1, .int a), (2, .ref b), (3, .int y2)]) (st' := []) rfl ?_
                refine En_lv1 (addI rfl (by decide : (Int32.ofInt 1).toInt = 1) (by first | exact q_465ab79ac1 h9 | omega) (by first | exact q_f3f8e04381 h10 | omega)) (fun z36 h37 => ?_)
                refine En_Ps 1 (pc' := 47) (lv' := [(4, .int z36), (5, .int z24), (0, .ref 8), (1, .int a), (2, .ref b), (3, .int y2)]) (st' := []) rfl ?_
                refine En_lv (lv := [(0, .ref 8), (1, .int a), (2, .ref b), (3, .int y2), (4, .int z36)]) ⟨rfl, rfl, rfl, rfl, rfl, trivial⟩ ?_
                exact ih47 y2 z36 (by first | exact q_58e6e51dcc h7 | omega) (by first | exact q_36eb0a70bf h8 | omega) (by first | exact q_35104ce9d3 h37 h9 | omega) (by first | exact q_eba8fd3b5f h37 h16 hu_kk | omega) (by first | exact q_ae2dbf4292 h16 h37 | omega) (by first | exact q_8d03a5a7cb h37 h12 | omega) (LBT_n (by omega) h13 h26 (by omega) (by omega) (by omega))
              · refine En_Ps 4 (pc' := 102) (lv' := [(5, .int z24), (0, .ref 8), (1, .int a), (2, .ref b), (3, .int y2), (4, .int y3)]) (st' := [.int ((((Int32.ofInt 1)) <<< (y3 &&& 31))), .int y2]) rfl ?_
                refine En_nam (fun z38 h39 => ?_)
                have h40 : z38.toInt = pI y3.toInt := shl_v h39 rfl (by omega) (by omega)
                have := pI_pos y3.toInt
                have : pI y3.toInt ≤ 32768 := pI_mono (Y := 15) (by omega)
                refine En_Ps 1 (pc' := 103) (lv' := [(5, .int z24), (0, .ref 8), (1, .int a), (2, .ref b), (3, .int y2), (4, .int y3)]) (st' := [.int ((y2 ||| z38))]) rfl ?_
                refine En_nam (fun z41 h42 => ?_)
                have h43 : z41.toInt = oN y2.toInt z38.toInt := or_v h42 rfl rfl (by omega) (by omega)
                have := oN_lt (X := y2.toInt) (Y := z38.toInt) 16 (by omega) (by omega) (Int.lt_of_le_of_lt (by omega : _ ≤ (65535 : Int)) (by decide)) (Int.lt_of_le_of_lt (by omega : _ ≤ (65535 : Int)) (by decide))
                have two16 : ((2 ^ 16 : Nat) : Int) = 65536 := by decide
                refine En_Ps 2 (pc' := 107) (lv' := [(4, .int ((y3 + Int32.ofInt 1))), (3, .int z41), (5, .int z24), (0, .ref 8), (1, .int a), (2, .ref b)]) (st' := []) rfl ?_
                refine En_lv1 (addI rfl (by decide : (Int32.ofInt 1).toInt = 1) (by first | exact q_465ab79ac1 h9 | omega) (by first | exact q_f3f8e04381 h10 | omega)) (fun z44 h45 => ?_)
                refine En_Ps 1 (pc' := 47) (lv' := [(4, .int z44), (3, .int z41), (5, .int z24), (0, .ref 8), (1, .int a), (2, .ref b)]) (st' := []) rfl ?_
                refine En_lv (lv := [(0, .ref 8), (1, .int a), (2, .ref b), (3, .int z41), (4, .int z44)]) ⟨rfl, rfl, rfl, rfl, rfl, trivial⟩ ?_
                exact ih47 z41 z44 (by omega) (by omega) (by first | exact q_35104ce9d3 h45 h9 | omega) (by first | exact q_eba8fd3b5f h45 h16 hu_kk | omega) (by first | exact q_ae2dbf4292 h16 h45 | omega) (by first | exact q_8d03a5a7cb h45 h12 | omega) (LBT_y (q := z38.toInt) (by omega) h13 h26 (by omega) (by omega) (by omega) (by omega) (by omega))
          · refine En_Ps 2 (pc' := 66) (lv' := [(0, .ref 8), (1, .int a), (2, .ref b), (3, .int y2), (4, .int y3)]) (st' := [.int y3, .ref b]) rfl ?_
            refine En_callV rfl rfl rfl rfl rfl rfl rfl rfl hb (by decide +kernel) rfl (c_36x σ0 hσ0 b hb y3 kn hkn h_kn op hop h_op sz h_sz) (by decide) (by decide) (fun v47 σ48 h46 => ?_)
            obtain ⟨h49, h50, z52, rfl, h51⟩ := h46
            have h53 := h51.2.2
            obtain rfl : σ0 = σ48 := Fr_nil h50
            refine En_Ps 1 (pc' := 78) (lv' := [(0, .ref 8), (1, .int a), (2, .ref b), (3, .int y2), (4, .int y3)]) (st' := [.int z52]) rfl ?_
            have h54 : z52.toInt = BYL a.toInt (ci σ0 kn) sz.toInt y3.toInt := BYL_0 (by omega) h53
            refine En_Ps 3 (pc' := 83) (lv' := [(5, .int z52), (0, .ref 8), (1, .int a), (2, .ref b), (3, .int y2), (4, .int y3)]) (st' := [.int ((Int32.ofInt (-1))), .int z52]) rfl ?_
            refine En_icEq _ rfl (by decide : (Int32.ofInt (-1)).toInt = -1) rfl (fun h55 => ?_) (fun h55 => ?_)
            · refine En_Ps 1 (pc' := 107) (lv' := [(4, .int ((y3 + Int32.ofInt 1))), (5, .int z52), (0, .ref 8), (1, .int a), (2, .ref b), (3, .int y2)]) (st' := []) rfl ?_
              refine En_lv1 (addI rfl (by decide : (Int32.ofInt 1).toInt = 1) (by first | exact q_465ab79ac1 h9 | omega) (by first | exact q_f3f8e04381 h10 | omega)) (fun z56 h57 => ?_)
              refine En_Ps 1 (pc' := 47) (lv' := [(4, .int z56), (5, .int z52), (0, .ref 8), (1, .int a), (2, .ref b), (3, .int y2)]) (st' := []) rfl ?_
              refine En_lv (lv := [(0, .ref 8), (1, .int a), (2, .ref b), (3, .int y2), (4, .int z56)]) ⟨rfl, rfl, rfl, rfl, rfl, trivial⟩ ?_
              exact ih47 y2 z56 (by first | exact q_58e6e51dcc h7 | omega) (by first | exact q_36eb0a70bf h8 | omega) (by first | exact q_35104ce9d3 h57 h9 | omega) (by first | exact q_eba8fd3b5f h57 h16 hu_kk | omega) (by first | exact q_ae2dbf4292 h16 h57 | omega) (by first | exact q_8d03a5a7cb h57 h12 | omega) (LBT_n (by omega) h13 h54 (by omega) (by omega) (by omega))
            · refine En_Ps 1 (pc' := 87) (lv' := [(5, .int z52), (0, .ref 8), (1, .int a), (2, .ref b), (3, .int y2), (4, .int y3)]) (st' := [.ref b]) rfl ?_
              refine En_getK (j := 1) h_op rfl rfl rfl hb (by decide +kernel) ?_
              refine En_Ps 1 (pc' := 92) (lv' := [(5, .int z52), (0, .ref 8), (1, .int a), (2, .ref b), (3, .int y2), (4, .int y3)]) (st' := [.int z52, .ref op]) rfl ?_
              refine En_iald (l := 0) (u := 1) rfl rfl hop (by decide +kernel) hσ0 (by first | exact q_b1cade0df5 h55 h51.1 | omega) (lnI (by decide +kernel : LN _ = 13) (by first | exact q_f3cf35f0f9 h51.2.1 | omega)) (FTsgl (by decide +kernel)) (fun z59 h58 h60 h61 => ?_)
              have h62 : ci σ0 op (z52.toInt) = z59.toInt := ci_at h58 rfl
              refine En_Ps 1 (pc' := 94) (lv' := [(5, .int z52), (0, .ref 8), (1, .int a), (2, .ref b), (3, .int y2), (4, .int y3)]) (st' := [.int ((Int32.ofInt 1)), .int z59]) rfl ?_
              refine En_icNe _ rfl (by decide : (Int32.ofInt 1).toInt = 1) rfl (fun h63 => ?_) (fun h63 => ?_)
              · refine En_Ps 1 (pc' := 107) (lv' := [(4, .int ((y3 + Int32.ofInt 1))), (5, .int z52), (0, .ref 8), (1, .int a), (2, .ref b), (3, .int y2)]) (st' := []) rfl ?_
                refine En_lv1 (addI rfl (by decide : (Int32.ofInt 1).toInt = 1) (by first | exact q_465ab79ac1 h9 | omega) (by first | exact q_f3f8e04381 h10 | omega)) (fun z64 h65 => ?_)
                refine En_Ps 1 (pc' := 47) (lv' := [(4, .int z64), (5, .int z52), (0, .ref 8), (1, .int a), (2, .ref b), (3, .int y2)]) (st' := []) rfl ?_
                refine En_lv (lv := [(0, .ref 8), (1, .int a), (2, .ref b), (3, .int y2), (4, .int z64)]) ⟨rfl, rfl, rfl, rfl, rfl, trivial⟩ ?_
                exact ih47 y2 z64 (by first | exact q_58e6e51dcc h7 | omega) (by first | exact q_36eb0a70bf h8 | omega) (by first | exact q_35104ce9d3 h65 h9 | omega) (by first | exact q_eba8fd3b5f h65 h16 hu_kk | omega) (by first | exact q_ae2dbf4292 h16 h65 | omega) (by first | exact q_8d03a5a7cb h65 h12 | omega) (LBT_n (by omega) h13 h54 (by omega) (by omega) (by omega))
              · refine En_Ps 4 (pc' := 102) (lv' := [(5, .int z52), (0, .ref 8), (1, .int a), (2, .ref b), (3, .int y2), (4, .int y3)]) (st' := [.int ((((Int32.ofInt 1)) <<< (y3 &&& 31))), .int y2]) rfl ?_
                refine En_nam (fun z66 h67 => ?_)
                have h68 : z66.toInt = pI y3.toInt := shl_v h67 rfl (by omega) (by omega)
                have := pI_pos y3.toInt
                have : pI y3.toInt ≤ 32768 := pI_mono (Y := 15) (by omega)
                refine En_Ps 1 (pc' := 103) (lv' := [(5, .int z52), (0, .ref 8), (1, .int a), (2, .ref b), (3, .int y2), (4, .int y3)]) (st' := [.int ((y2 ||| z66))]) rfl ?_
                refine En_nam (fun z69 h70 => ?_)
                have h71 : z69.toInt = oN y2.toInt z66.toInt := or_v h70 rfl rfl (by omega) (by omega)
                have := oN_lt (X := y2.toInt) (Y := z66.toInt) 16 (by omega) (by omega) (Int.lt_of_le_of_lt (by omega : _ ≤ (65535 : Int)) (by decide)) (Int.lt_of_le_of_lt (by omega : _ ≤ (65535 : Int)) (by decide))
                have two16 : ((2 ^ 16 : Nat) : Int) = 65536 := by decide
                refine En_Ps 2 (pc' := 107) (lv' := [(4, .int ((y3 + Int32.ofInt 1))), (3, .int z69), (5, .int z52), (0, .ref 8), (1, .int a), (2, .ref b)]) (st' := []) rfl ?_
                refine En_lv1 (addI rfl (by decide : (Int32.ofInt 1).toInt = 1) (by first | exact q_465ab79ac1 h9 | omega) (by first | exact q_f3f8e04381 h10 | omega)) (fun z72 h73 => ?_)
                refine En_Ps 1 (pc' := 47) (lv' := [(4, .int z72), (3, .int z69), (5, .int z52), (0, .ref 8), (1, .int a), (2, .ref b)]) (st' := []) rfl ?_
                refine En_lv (lv := [(0, .ref 8), (1, .int a), (2, .ref b), (3, .int z69), (4, .int z72)]) ⟨rfl, rfl, rfl, rfl, rfl, trivial⟩ ?_
                exact ih47 z69 z72 (by omega) (by omega) (by first | exact q_35104ce9d3 h73 h9 | omega) (by first | exact q_eba8fd3b5f h73 h16 hu_kk | omega) (by first | exact q_ae2dbf4292 h16 h73 | omega) (by first | exact q_8d03a5a7cb h73 h12 | omega) (LBT_y (q := z66.toInt) (by omega) h13 h54 (by omega) (by omega) (by omega) (by omega) (by omega))
    have := (by decide : (Int32.ofInt 0).toInt = 0)
    have := (by decide : (Int32.ofInt 0).toInt = 0)
    refine En_lv (lv := [(0, .ref 8), (1, .int a), (2, .ref b), (3, .int ((Int32.ofInt 0))), (4, .int ((Int32.ofInt 0)))]) ⟨rfl, rfl, rfl, rfl, rfl, trivial⟩ ?_
    exact key47 (Int.toNat (kk.toInt) + 1) ((Int32.ofInt 0)) ((Int32.ofInt 0)) (by decide) (by decide) (by decide) (by decide) (by omega) (by first | exact toN_lt _ | omega) (LBT_0 (by omega) (by omega))
  · refine En_Ps 1 (pc' := 6) (lv' := [(0, .ref 8), (1, .int a), (2, .ref b)]) (st' := [.ref 8]) rfl ?_
    refine En_getU (j := 0) (u := 4) (g' := 4) (q := 0) rfl rfl rfl tgz_8 (by decide +kernel) hσ0 (by decide +kernel) un_4_4 (fun h74 => ?_)
    refine En_Ps 2 (pc' := 11) (lv' := [(0, .ref 8), (1, .int a), (2, .ref b)]) (st' := [.int ((Int32.ofInt 1)), .ref b, .ref 4]) rfl ?_
    have := (by decide : ((Int32.ofInt 1)).toInt = 1)
    refine En_callV rfl rfl rfl rfl rfl rfl rfl rfl hb (by decide +kernel) rfl (c_39x σ0 hσ0 b hb ((Int32.ofInt 1)) kn hkn h_kn op hop h_op sz h_sz) (by decide) (by decide) (fun v77 σ78 h76 => ?_)
    obtain ⟨h79, h80, z82, rfl, h81⟩ := h76
    have h83 := h81.2.2
    obtain rfl : σ0 = σ78 := Fr_nil h80
    refine En_Ps 2 (pc' := 16) (lv' := [(0, .ref 8), (1, .int a), (2, .ref b)]) (st' := [.int ((Int32.ofInt 0)), .ref b, .int z82, .ref 4]) rfl ?_
    have := (by decide : ((Int32.ofInt 0)).toInt = 0)
    refine En_callV rfl rfl rfl rfl rfl rfl rfl rfl hb (by decide +kernel) rfl (c_39x σ0 hσ0 b hb ((Int32.ofInt 0)) kn hkn h_kn op hop h_op sz h_sz) (by decide) (by decide) (fun v85 σ86 h84 => ?_)
    obtain ⟨h87, h88, z90, rfl, h89⟩ := h84
    have h91 := h89.2.2
    obtain rfl : σ0 = σ86 := Fr_nil h88
    refine En_callV rfl rfl rfl rfl rfl rfl rfl rfl tgz_4 (by decide +kernel) rfl (c_78x σ0 hσ0 z82 z90 (geI rfl (by first | exact q_ef1e8e38bf h81.1 | omega)) (leI rfl (by first | exact q_62355f097f h81.2.1 | omega)) (geI rfl (by first | exact q_ef1e8e38bf h89.1 | omega)) (leI rfl (by first | exact q_62355f097f h89.2.1 | omega)) rz h_rz hD) (by decide) (by decide) (fun v93 σ94 h92 => ?_)
    obtain ⟨h95, h96, z98, rfl, h97⟩ := h92
    have h99 := h97.2.2
    obtain rfl : σ0 = σ94 := Fr_nil h96
    have h100 : z98.toInt = FIR (fun i => ASP (ci σ0 7 i) (ci σ0 kn) (ci σ0 op) sz.toInt) rz.toInt.toNat := FIR_ag hD (by omega) (fun i i0 i1 => row_rg (n := 13) (l := 0) (u := 15) hσ0 hkn (by decide +kernel) i i0 (by omega)) (fun i i0 i1 => row_rg (n := 13) (l := 0) (u := 1) hσ0 hop (by decide +kernel) i i0 (by omega)) h83 h91 h99
    refine En_Ps 3 (pc' := 25) (lv' := [(3, .int z98), (0, .ref 8), (1, .int a), (2, .ref b)]) (st' := [.int ((Int32.ofInt (-1))), .int z98]) rfl ?_
    refine En_icNe _ rfl (by decide : (Int32.ofInt (-1)).toInt = -1) rfl (fun h101 => ?_) (fun h101 => ?_)
    · refine En_Ps 1 (pc' := 33) (lv' := [(3, .int z98), (0, .ref 8), (1, .int a), (2, .ref b)]) (st' := [.ref 8]) rfl ?_
      refine En_getK (j := 0) h74 rfl rfl rfl tgz_8 (by decide +kernel) ?_
      refine En_getU (j := 4) (u := 7) (g' := 7) (q := 0) rfl rfl rfl tgz_4 (by decide +kernel) hσ0 (by decide +kernel) un_7_7 (fun h102 => ?_)
      refine En_Ps 1 (pc' := 40) (lv' := [(3, .int z98), (0, .ref 8), (1, .int a), (2, .ref b)]) (st' := [.int z98, .ref 7]) rfl ?_
      refine En_iald (l := (-2147483648)) (u := 2147483647) rfl rfl tgz_7 (by decide +kernel) hσ0 (by first | exact q_b1cade0df5 h101 h97.1 | omega) (lnI (by decide +kernel : LN _ = 81) (by first | exact q_3ac9ed8367 h97.2.1 | omega)) (FTsgl (by decide +kernel)) (fun z105 h104 h106 h107 => ?_)
      have h108 : ci σ0 7 (z98.toInt) = z105.toInt := ci_at h104 rfl
      exact En_ret (v := some (Value.int z105)) rfl rfl rfl ⟨hσ0, hF0, z105, rfl, LRN_1 (by omega) h100 (by omega) h108.symm⟩
    · refine En_Ps 2 (pc' := 41) (lv' := [(3, .int z98), (0, .ref 8), (1, .int a), (2, .ref b)]) (st' := [.int ((Int32.ofInt 0))]) rfl ?_
      refine En_top (by decide : (Int32.ofInt 0).toInt = 0) (fun z109 h110 => ?_)
      exact En_ret (v := some (Value.int z109)) rfl rfl rfl ⟨hσ0, hF0, z109, rfl, LRN_0 (by omega) h100 (by omega) (by omega)⟩
end
