set_option maxHeartbeats 1000000 in
theorem cs_372 {L : Nat} {xs : Nat → Int32} {v5 : Int32} {tn : Int32} {tb : Nat → Int32} {sw : Int32} {sl : Int32} {sg : Int32} {sp : Int32} {ww : Nat → Int32} {wr : Nat → Int32} {wm : Nat → Int32} {wl : Nat → Int32} {wd : Nat → Int32} {pn : Int32} {pch : Int32} {pk : Nat → Int32} {pl : Nat → Int32} {pd : Nat → Int32} {ps : Nat → Int32} {bn : Int32} {br : Nat → Int32} {rn : Int32} {rf : Int32} {rx : Int32} {rp : Int32} {rb : Nat → Int32} {mth : Int32} {msz : Int32} {mwi : Int32} {mle : Int32} {mgr : Int32} {mpr : Int32} {mhp : Int32} {mtk : Int32} {mbn : Int32} {mmd : Int32} {mep : Int32} {mat : Int32} {mer : Int32} {mtx : Nat → Int32} {mki : Nat → Int32} {mln : Nat → Int32} {mdi : Nat → Int32} {mst : Nat → Int32} {mbi : Nat → Int32} {mou : Nat → Int32} {mco : Nat → Int32} {mct : Nat → Int32} {mfk : Nat → Int32} {mfl : Nat → Int32} {mfd : Nat → Int32} {mgo : Nat → Int32} {mma : Nat → Int32} {ov : Nat → Int64} {od : Nat → UInt64} {KB : Int32 → Int32 → (Nat → Int32) → Int32 → Int32 → Int32 → Int32 → (Nat → Int32) → (Nat → Int32) → (Nat → Int32) → (Nat → Int32) → (Nat → Int32) → Int32 → Int32 → (Nat → Int32) → (Nat → Int32) → (Nat → Int32) → (Nat → Int32) → Int32 → (Nat → Int32) → Int32 → Int32 → Int32 → Int32 → (Nat → Int32) → Int32 → Int32 → Int32 → Int32 → Int32 → Int32 → Int32 → Int32 → Int32 → Int32 → Int32 → Int32 → Int32 → (Nat → Int32) → (Nat → Int32) → (Nat → Int32) → (Nat → Int32) → (Nat → Int32) → (Nat → Int32) → (Nat → Int32) → (Nat → Int32) → (Nat → Int32) → (Nat → Int32) → (Nat → Int32) → (Nat → Int32) → (Nat → Int32) → (Nat → Int32) → (Nat → Int64) → (Nat → UInt64) → Prop} (hI : Inv tn tb sw sl sg sp pn pch pk pl pd ps bn br rn rf rb msz mwi mle mgr mpr mhp mtk mbn mmd mep mtx mki mln mdi mst mbi mou) (hv1 : vp_in (v5 + 1) L) (hv2 : vp_in (v5 + 2) L) (hv3 : vp_in (v5 + 3) L) (hKB : ∀ (v59 : Int32) (tn9 : Int32) (tb9 : Nat → Int32) (sw9 : Int32) (sl9 : Int32) (sg9 : Int32) (sp9 : Int32) (ww9 : Nat → Int32) (wr9 : Nat → Int32) (wm9 : Nat → Int32) (wl9 : Nat → Int32) (wd9 : Nat → Int32) (pn9 : Int32) (pch9 : Int32) (pk9 : Nat → Int32) (pl9 : Nat → Int32) (pd9 : Nat → Int32) (ps9 : Nat → Int32) (bn9 : Int32) (br9 : Nat → Int32) (rn9 : Int32) (rf9 : Int32) (rx9 : Int32) (rp9 : Int32) (rb9 : Nat → Int32) (mth9 : Int32) (msz9 : Int32) (mwi9 : Int32) (mle9 : Int32) (mgr9 : Int32) (mpr9 : Int32) (mhp9 : Int32) (mtk9 : Int32) (mbn9 : Int32) (mmd9 : Int32) (mep9 : Int32) (mat9 : Int32) (mer9 : Int32) (mtx9 : Nat → Int32) (mki9 : Nat → Int32) (mln9 : Nat → Int32) (mdi9 : Nat → Int32) (mst9 : Nat → Int32) (mbi9 : Nat → Int32) (mou9 : Nat → Int32) (mco9 : Nat → Int32) (mct9 : Nat → Int32) (mfk9 : Nat → Int32) (mfl9 : Nat → Int32) (mfd9 : Nat → Int32) (mgo9 : Nat → Int32) (mma9 : Nat → Int32) (ov9 : Nat → Int64) (od9 : Nat → UInt64), v59 = v5 + 4 → Inv tn9 tb9 sw9 sl9 sg9 sp9 pn9 pch9 pk9 pl9 pd9 ps9 bn9 br9 rn9 rf9 rb9 msz9 mwi9 mle9 mgr9 mpr9 mhp9 mtk9 mbn9 mmd9 mep9 mtx9 mki9 mln9 mdi9 mst9 mbi9 mou9 → KB v59 tn9 tb9 sw9 sl9 sg9 sp9 ww9 wr9 wm9 wl9 wd9 pn9 pch9 pk9 pl9 pd9 ps9 bn9 br9 rn9 rf9 rx9 rp9 rb9 mth9 msz9 mwi9 mle9 mgr9 mpr9 mhp9 mtk9 mbn9 mmd9 mep9 mat9 mer9 mtx9 mki9 mln9 mdi9 mst9 mbi9 mou9 mco9 mct9 mfk9 mfl9 mfd9 mgo9 mma9 ov9 od9) : wpL_law_372 L xs v5 tn tb sw sl sg sp ww wr wm wl wd pn pch pk pl pd ps bn br rn rf rx rp rb msz mwi mle mgr mpr mhp mtk mbn mmd mep mat mer mtx mki mln mdi mst mbi mou mco mct mfk mfl mfd mgo mma ov od KB := by
  obtain ⟨hT, hSe, hPl, hB, hR⟩ := hI
  obtain ⟨n, hn, rfl, rfl, rfl, hby⟩ := id hT
  obtain ⟨rfl, rfl, rfl, rfl, rfl, hpl⟩ := id hPl
  unfold wpL_law_372 wpL_cut wpX10_cut wpX10_thrown wpX9_cut wpX10_no wpX4_forget
  refine ⟨hv1, ?_⟩
  generalize xs (v5 + 1).toNatClampNeg = v
  by_cases c1 : v < 0
  · refine br_t c1 ?_
    refine ⟨rfl, ?_⟩
    refine iIn0 (Or.inl c1) ?_
    refine br_t rfl ?_
    exact tlK1 (hKB _ _ _ _ _ _ _ _ _ _ _ _ _ _ _ _ _ _ _ _ _ _ _ _ _ _ _ _ _ _ _ _ _ _ _ _ _ _ _ _ _ _ _ _ _ _ _ _ _ _ _ _ _ _ rfl ⟨hT, hSe, hPl, hB, hR⟩)
  · by_cases c2 : v ≤ nI n
    · obtain ⟨j, hj, rfl⟩ := i_nat (N := n) c1 c2 (nI_toInt (by omega))
      refine br_f c1 ?_
      refine br_t c2 ?_
      refine iIn1 c1 (i_ngt c2) ?_
      refine br_f ne10 ?_
      exact tlK0 (tl0 (hKB _ _ _ _ _ _ _ _ _ _ _ _ _ _ _ _ _ _ _ _ _ _ _ _ _ _ _ _ _ _ _ _ _ _ _ _ _ _ _ _ _ _ _ _ _ _ _ _ _ _ _ _ _ _ rfl ⟨⟨n - j, by omega, pk_sub hj, pk_sub hj, rfl, hby⟩, hSe, ⟨rfl, rfl, rfl, rfl, rfl, Or.inl ⟨rfl, rfl⟩⟩, hB, hR⟩))
    · refine br_f c1 ?_
      refine br_f c2 ?_
      refine ⟨rfl, ?_⟩
      refine iIn0 (Or.inr (i_gt c2)) ?_
      refine br_t rfl ?_
      exact tlK1 (hKB _ _ _ _ _ _ _ _ _ _ _ _ _ _ _ _ _ _ _ _ _ _ _ _ _ _ _ _ _ _ _ _ _ _ _ _ _ _ _ _ _ _ _ _ _ _ _ _ _ _ _ _ _ _ rfl ⟨hT, hSe, hPl, hB, hR⟩)
set_option maxHeartbeats 1000000 in
theorem cs_428 {L : Nat} {xs : Nat → Int32} {v5 : Int32} {tn : Int32} {tb : Nat → Int32} {sw : Int32} {sl : Int32} {sg : Int32} {sp : Int32} {ww : Nat → Int32} {wr : Nat → Int32} {wm : Nat → Int32} {wl : Nat → Int32} {wd : Nat → Int32} {pn : Int32} {pch : Int32} {pk : Nat → Int32} {pl : Nat → Int32} {pd : Nat → Int32} {ps : Nat → Int32} {bn : Int32} {br : Nat → Int32} {rn : Int32} {rf : Int32} {rx : Int32} {rp : Int32} {rb : Nat → Int32} {mth : Int32} {msz : Int32} {mwi : Int32} {mle : Int32} {mgr : Int32} {mpr : Int32} {mhp : Int32} {mtk : Int32} {mbn : Int32} {mmd : Int32} {mep : Int32} {mat : Int32} {mer : Int32} {mtx : Nat → Int32} {mki : Nat → Int32} {mln : Nat → Int32} {mdi : Nat → Int32} {mst : Nat → Int32} {mbi : Nat → Int32} {mou : Nat → Int32} {mco : Nat → Int32} {mct : Nat → Int32} {mfk : Nat → Int32} {mfl : Nat → Int32} {mfd : Nat → Int32} {mgo : Nat → Int32} {mma : Nat → Int32} {ov : Nat → Int64} {od : Nat → UInt64} {KB : Int32 → Int32 → (Nat → Int32) → Int32 → Int32 → Int32 → Int32 → (Nat → Int32) → (Nat → Int32) → (Nat → Int32) → (Nat → Int32) → (Nat → Int32) → Int32 → Int32 → (Nat → Int32) → (Nat → Int32) → (Nat → Int32) → (Nat → Int32) → Int32 → (Nat → Int32) → Int32 → Int32 → Int32 → Int32 → (Nat → Int32) → Int32 → Int32 → Int32 → Int32 → Int32 → Int32 → Int32 → Int32 → Int32 → Int32 → Int32 → Int32 → Int32 → (Nat → Int32) → (Nat → Int32) → (Nat → Int32) → (Nat → Int32) → (Nat → Int32) → (Nat → Int32) → (Nat → Int32) → (Nat → Int32) → (Nat → Int32) → (Nat → Int32) → (Nat → Int32) → (Nat → Int32) → (Nat → Int32) → (Nat → Int32) → (Nat → Int64) → (Nat → UInt64) → Prop} (hI : Inv tn tb sw sl sg sp pn pch pk pl pd ps bn br rn rf rb msz mwi mle mgr mpr mhp mtk mbn mmd mep mtx mki mln mdi mst mbi mou) (hv1 : vp_in (v5 + 1) L) (hv2 : vp_in (v5 + 2) L) (hv3 : vp_in (v5 + 3) L) (hKB : ∀ (v59 : Int32) (tn9 : Int32) (tb9 : Nat → Int32) (sw9 : Int32) (sl9 : Int32) (sg9 : Int32) (sp9 : Int32) (ww9 : Nat → Int32) (wr9 : Nat → Int32) (wm9 : Nat → Int32) (wl9 : Nat → Int32) (wd9 : Nat → Int32) (pn9 : Int32) (pch9 : Int32) (pk9 : Nat → Int32) (pl9 : Nat → Int32) (pd9 : Nat → Int32) (ps9 : Nat → Int32) (bn9 : Int32) (br9 : Nat → Int32) (rn9 : Int32) (rf9 : Int32) (rx9 : Int32) (rp9 : Int32) (rb9 : Nat → Int32) (mth9 : Int32) (msz9 : Int32) (mwi9 : Int32) (mle9 : Int32) (mgr9 : Int32) (mpr9 : Int32) (mhp9 : Int32) (mtk9 : Int32) (mbn9 : Int32) (mmd9 : Int32) (mep9 : Int32) (mat9 : Int32) (mer9 : Int32) (mtx9 : Nat → Int32) (mki9 : Nat → Int32) (mln9 : Nat → Int32) (mdi9 : Nat → Int32) (mst9 : Nat → Int32) (mbi9 : Nat → Int32) (mou9 : Nat → Int32) (mco9 : Nat → Int32) (mct9 : Nat → Int32) (mfk9 : Nat → Int32) (mfl9 : Nat → Int32) (mfd9 : Nat → Int32) (mgo9 : Nat → Int32) (mma9 : Nat → Int32) (ov9 : Nat → Int64) (od9 : Nat → UInt64), v59 = v5 + 4 → Inv tn9 tb9 sw9 sl9 sg9 sp9 pn9 pch9 pk9 pl9 pd9 ps9 bn9 br9 rn9 rf9 rb9 msz9 mwi9 mle9 mgr9 mpr9 mhp9 mtk9 mbn9 mmd9 mep9 mtx9 mki9 mln9 mdi9 mst9 mbi9 mou9 → KB v59 tn9 tb9 sw9 sl9 sg9 sp9 ww9 wr9 wm9 wl9 wd9 pn9 pch9 pk9 pl9 pd9 ps9 bn9 br9 rn9 rf9 rx9 rp9 rb9 mth9 msz9 mwi9 mle9 mgr9 mpr9 mhp9 mtk9 mbn9 mmd9 mep9 mat9 mer9 mtx9 mki9 mln9 mdi9 mst9 mbi9 mou9 mco9 mct9 mfk9 mfl9 mfd9 mgo9 mma9 ov9 od9) : wpL_law_428 L xs v5 tn tb sw sl sg sp ww wr wm wl wd pn pch pk pl pd ps bn br rn rf rx rp rb msz mwi mle mgr mpr mhp mtk mbn mmd mep mat mer mtx mki mln mdi mst mbi mou mco mct mfk mfl mfd mgo mma ov od KB := by
  obtain ⟨hT, hSe, hPl, hB, hR⟩ := hI
  obtain ⟨n, hn, rfl, rfl, rfl, hby⟩ := id hT
  obtain ⟨rfl, rfl, rfl, rfl, rfl, hpl⟩ := id hPl
  unfold wpL_law_428 wpL_set wpX10_set wpX10_thrown wpX9_set wpX10_isPlace wpX10_no wpX8_has wpX9_isByte wpX4_forget
  refine ⟨hv1, hv2, ?_⟩
  generalize xs (v5 + 1).toNatClampNeg = v
  generalize xs (v5 + 2).toNatClampNeg = b
  by_cases c1 : v < 0
  · refine br_t c1 ?_
    refine br_t rfl ?_
    refine Or.inl ?_
    refine ⟨rfl, ?_⟩
    refine iIn0 (Or.inl c1) ?_
    refine ⟨nbz, ?_⟩
    refine br_t rfl ?_
    exact tlK1 (hKB _ _ _ _ _ _ _ _ _ _ _ _ _ _ _ _ _ _ _ _ _ _ _ _ _ _ _ _ _ _ _ _ _ _ _ _ _ _ _ _ _ _ _ _ _ _ _ _ _ _ _ _ _ _ rfl ⟨hT, hSe, hPl, hB, hR⟩)
  · by_cases c2 : nI n ≤ v
    · refine br_f c1 ?_
      refine br_t c2 ?_
      refine br_t rfl ?_
      refine Or.inl ?_
      refine ⟨rfl, ?_⟩
      refine iIn0 (Or.inr ((i_last (by omega)).mpr c2)) ?_
      refine ⟨nbz, ?_⟩
      refine br_t rfl ?_
      exact tlK1 (hKB _ _ _ _ _ _ _ _ _ _ _ _ _ _ _ _ _ _ _ _ _ _ _ _ _ _ _ _ _ _ _ _ _ _ _ _ _ _ _ _ _ _ _ _ _ _ _ _ _ _ _ _ _ _ rfl ⟨hT, hSe, hPl, hB, hR⟩)
    · obtain ⟨j, hj, rfl, hin⟩ := i_at (N := 64) c1 c2 hn (by decide)
      refine br_f c1 ?_
      refine br_f c2 ?_
      refine br_f ne10 ?_
      have hM : ∀ {post : Int32 → Prop}, post 1 → wpX10_isIn (nI j) 0 (nI n - 1) post := fun h => iIn1 c1 (fun q => c2 ((i_last (by omega)).mp q)) h
      by_cases d1 : b < 0
      · refine br_t d1 ?_
        refine br_t rfl ?_
        refine Or.inr ?_
        refine ⟨rfl, ?_⟩
        refine hM ?_
        refine ⟨nbo, ?_⟩
        refine br_f ne10 ?_
        refine iIn0 (Or.inl d1) ?_
        refine br_t rfl ?_
        exact tlK2 (hKB _ _ _ _ _ _ _ _ _ _ _ _ _ _ _ _ _ _ _ _ _ _ _ _ _ _ _ _ _ _ _ _ _ _ _ _ _ _ _ _ _ _ _ _ _ _ _ _ _ _ _ _ _ _ rfl ⟨hT, hSe, hPl, hB, hR⟩)
      · by_cases d2 : 255 < b
        · refine br_f d1 ?_
          refine br_t d2 ?_
          refine br_t rfl ?_
          refine Or.inr ?_
          refine ⟨rfl, ?_⟩
          refine hM ?_
          refine ⟨nbo, ?_⟩
          refine br_f ne10 ?_
          refine iIn0 (Or.inr d2) ?_
          refine br_t rfl ?_
          exact tlK2 (hKB _ _ _ _ _ _ _ _ _ _ _ _ _ _ _ _ _ _ _ _ _ _ _ _ _ _ _ _ _ _ _ _ _ _ _ _ _ _ _ _ _ _ _ _ _ _ _ _ _ _ _ _ _ _ rfl ⟨hT, hSe, hPl, hB, hR⟩)
        · refine br_f d1 ?_
          refine br_f d2 ?_
          refine br_f ne10 ?_
          refine ⟨hin, ?_⟩
          refine hM ?_
          refine ⟨nbo, ?_⟩
          refine br_f ne10 ?_
          refine iIn1 d1 d2 ?_
          refine br_f ne10 ?_
          refine ⟨hin, ?_⟩
          obtain ⟨c, hc, rfl⟩ := i_nat (N := 255) d1 (i_ge d2) (by decide)
          exact tlK0 (tl0 (hKB _ _ _ _ _ _ _ _ _ _ _ _ _ _ _ _ _ _ _ _ _ _ _ _ _ _ _ _ _ _ _ _ _ _ _ _ _ _ _ _ _ _ _ _ _ _ _ _ _ _ _ _ _ _ rfl ⟨⟨n, hn, rfl, rfl, rfl, upd_byte hby (by omega)⟩, hSe, ⟨rfl, rfl, rfl, rfl, rfl, Or.inl ⟨rfl, rfl⟩⟩, hB, hR⟩))
set_option maxHeartbeats 1000000 in
theorem cs_496 {L : Nat} {xs : Nat → Int32} {v5 : Int32} {tn : Int32} {tb : Nat → Int32} {sw : Int32} {sl : Int32} {sg : Int32} {sp : Int32} {ww : Nat → Int32} {wr : Nat → Int32} {wm : Nat → Int32} {wl : Nat → Int32} {wd : Nat → Int32} {pn : Int32} {pch : Int32} {pk : Nat → Int32} {pl : Nat → Int32} {pd : Nat → Int32} {ps : Nat → Int32} {bn : Int32} {br : Nat → Int32} {rn : Int32} {rf : Int32} {rx : Int32} {rp : Int32} {rb : Nat → Int32} {mth : Int32} {msz : Int32} {mwi : Int32} {mle : Int32} {mgr : Int32} {mpr : Int32} {mhp : Int32} {mtk : Int32} {mbn : Int32} {mmd : Int32} {mep : Int32} {mat : Int32} {mer : Int32} {mtx : Nat → Int32} {mki : Nat → Int32} {mln : Nat → Int32} {mdi : Nat → Int32} {mst : Nat → Int32} {mbi : Nat → Int32} {mou : Nat → Int32} {mco : Nat → Int32} {mct : Nat → Int32} {mfk : Nat → Int32} {mfl : Nat → Int32} {mfd : Nat → Int32} {mgo : Nat → Int32} {mma : Nat → Int32} {ov : Nat → Int64} {od : Nat → UInt64} {KB : Int32 → Int32 → (Nat → Int32) → Int32 → Int32 → Int32 → Int32 → (Nat → Int32) → (Nat → Int32) → (Nat → Int32) → (Nat → Int32) → (Nat → Int32) → Int32 → Int32 → (Nat → Int32) → (Nat → Int32) → (Nat → Int32) → (Nat → Int32) → Int32 → (Nat → Int32) → Int32 → Int32 → Int32 → Int32 → (Nat → Int32) → Int32 → Int32 → Int32 → Int32 → Int32 → Int32 → Int32 → Int32 → Int32 → Int32 → Int32 → Int32 → Int32 → (Nat → Int32) → (Nat → Int32) → (Nat → Int32) → (Nat → Int32) → (Nat → Int32) → (Nat → Int32) → (Nat → Int32) → (Nat → Int32) → (Nat → Int32) → (Nat → Int32) → (Nat → Int32) → (Nat → Int32) → (Nat → Int32) → (Nat → Int32) → (Nat → Int64) → (Nat → UInt64) → Prop} (hI : Inv tn tb sw sl sg sp pn pch pk pl pd ps bn br rn rf rb msz mwi mle mgr mpr mhp mtk mbn mmd mep mtx mki mln mdi mst mbi mou) (hv1 : vp_in (v5 + 1) L) (hv2 : vp_in (v5 + 2) L) (hv3 : vp_in (v5 + 3) L) (hKB : ∀ (v59 : Int32) (tn9 : Int32) (tb9 : Nat → Int32) (sw9 : Int32) (sl9 : Int32) (sg9 : Int32) (sp9 : Int32) (ww9 : Nat → Int32) (wr9 : Nat → Int32) (wm9 : Nat → Int32) (wl9 : Nat → Int32) (wd9 : Nat → Int32) (pn9 : Int32) (pch9 : Int32) (pk9 : Nat → Int32) (pl9 : Nat → Int32) (pd9 : Nat → Int32) (ps9 : Nat → Int32) (bn9 : Int32) (br9 : Nat → Int32) (rn9 : Int32) (rf9 : Int32) (rx9 : Int32) (rp9 : Int32) (rb9 : Nat → Int32) (mth9 : Int32) (msz9 : Int32) (mwi9 : Int32) (mle9 : Int32) (mgr9 : Int32) (mpr9 : Int32) (mhp9 : Int32) (mtk9 : Int32) (mbn9 : Int32) (mmd9 : Int32) (mep9 : Int32) (mat9 : Int32) (mer9 : Int32) (mtx9 : Nat → Int32) (mki9 : Nat → Int32) (mln9 : Nat → Int32) (mdi9 : Nat → Int32) (mst9 : Nat → Int32) (mbi9 : Nat → Int32) (mou9 : Nat → Int32) (mco9 : Nat → Int32) (mct9 : Nat → Int32) (mfk9 : Nat → Int32) (mfl9 : Nat → Int32) (mfd9 : Nat → Int32) (mgo9 : Nat → Int32) (mma9 : Nat → Int32) (ov9 : Nat → Int64) (od9 : Nat → UInt64), v59 = v5 + 4 → Inv tn9 tb9 sw9 sl9 sg9 sp9 pn9 pch9 pk9 pl9 pd9 ps9 bn9 br9 rn9 rf9 rb9 msz9 mwi9 mle9 mgr9 mpr9 mhp9 mtk9 mbn9 mmd9 mep9 mtx9 mki9 mln9 mdi9 mst9 mbi9 mou9 → KB v59 tn9 tb9 sw9 sl9 sg9 sp9 ww9 wr9 wm9 wl9 wd9 pn9 pch9 pk9 pl9 pd9 ps9 bn9 br9 rn9 rf9 rx9 rp9 rb9 mth9 msz9 mwi9 mle9 mgr9 mpr9 mhp9 mtk9 mbn9 mmd9 mep9 mat9 mer9 mtx9 mki9 mln9 mdi9 mst9 mbi9 mou9 mco9 mct9 mfk9 mfl9 mfd9 mgo9 mma9 ov9 od9) : wpL_law_496 v5 tn tb sw sl sg sp ww wr wm wl wd pn pch pk pl pd ps bn br rn rf rx rp rb msz mwi mle mgr mpr mhp mtk mbn mmd mep mat mer mtx mki mln mdi mst mbi mou mco mct mfk mfl mfd mgo mma ov od KB := by
  obtain ⟨hT, hSe, hPl, hB, hR⟩ := hI
  obtain ⟨n, hn, rfl, rfl, rfl, hby⟩ := id hT
  unfold wpL_law_496 wpX9_size wpX10_size
  exact ⟨fun _ => (hKB _ _ _ _ _ _ _ _ _ _ _ _ _ _ _ _ _ _ _ _ _ _ _ _ _ _ _ _ _ _ _ _ _ _ _ _ _ _ _ _ _ _ _ _ _ _ _ _ _ _ _ _ _ _ rfl ⟨hT, hSe, hPl, hB, hR⟩), fun q => absurd rfl q⟩
set_option maxHeartbeats 1000000 in
theorem cs_509 {L : Nat} {xs : Nat → Int32} {v5 : Int32} {tn : Int32} {tb : Nat → Int32} {sw : Int32} {sl : Int32} {sg : Int32} {sp : Int32} {ww : Nat → Int32} {wr : Nat → Int32} {wm : Nat → Int32} {wl : Nat → Int32} {wd : Nat → Int32} {pn : Int32} {pch : Int32} {pk : Nat → Int32} {pl : Nat → Int32} {pd : Nat → Int32} {ps : Nat → Int32} {bn : Int32} {br : Nat → Int32} {rn : Int32} {rf : Int32} {rx : Int32} {rp : Int32} {rb : Nat → Int32} {mth : Int32} {msz : Int32} {mwi : Int32} {mle : Int32} {mgr : Int32} {mpr : Int32} {mhp : Int32} {mtk : Int32} {mbn : Int32} {mmd : Int32} {mep : Int32} {mat : Int32} {mer : Int32} {mtx : Nat → Int32} {mki : Nat → Int32} {mln : Nat → Int32} {mdi : Nat → Int32} {mst : Nat → Int32} {mbi : Nat → Int32} {mou : Nat → Int32} {mco : Nat → Int32} {mct : Nat → Int32} {mfk : Nat → Int32} {mfl : Nat → Int32} {mfd : Nat → Int32} {mgo : Nat → Int32} {mma : Nat → Int32} {ov : Nat → Int64} {od : Nat → UInt64} {KB : Int32 → Int32 → (Nat → Int32) → Int32 → Int32 → Int32 → Int32 → (Nat → Int32) → (Nat → Int32) → (Nat → Int32) → (Nat → Int32) → (Nat → Int32) → Int32 → Int32 → (Nat → Int32) → (Nat → Int32) → (Nat → Int32) → (Nat → Int32) → Int32 → (Nat → Int32) → Int32 → Int32 → Int32 → Int32 → (Nat → Int32) → Int32 → Int32 → Int32 → Int32 → Int32 → Int32 → Int32 → Int32 → Int32 → Int32 → Int32 → Int32 → Int32 → (Nat → Int32) → (Nat → Int32) → (Nat → Int32) → (Nat → Int32) → (Nat → Int32) → (Nat → Int32) → (Nat → Int32) → (Nat → Int32) → (Nat → Int32) → (Nat → Int32) → (Nat → Int32) → (Nat → Int32) → (Nat → Int32) → (Nat → Int32) → (Nat → Int64) → (Nat → UInt64) → Prop} (hI : Inv tn tb sw sl sg sp pn pch pk pl pd ps bn br rn rf rb msz mwi mle mgr mpr mhp mtk mbn mmd mep mtx mki mln mdi mst mbi mou) (hv1 : vp_in (v5 + 1) L) (hv2 : vp_in (v5 + 2) L) (hv3 : vp_in (v5 + 3) L) (hKB : ∀ (v59 : Int32) (tn9 : Int32) (tb9 : Nat → Int32) (sw9 : Int32) (sl9 : Int32) (sg9 : Int32) (sp9 : Int32) (ww9 : Nat → Int32) (wr9 : Nat → Int32) (wm9 : Nat → Int32) (wl9 : Nat → Int32) (wd9 : Nat → Int32) (pn9 : Int32) (pch9 : Int32) (pk9 : Nat → Int32) (pl9 : Nat → Int32) (pd9 : Nat → Int32) (ps9 : Nat → Int32) (bn9 : Int32) (br9 : Nat → Int32) (rn9 : Int32) (rf9 : Int32) (rx9 : Int32) (rp9 : Int32) (rb9 : Nat → Int32) (mth9 : Int32) (msz9 : Int32) (mwi9 : Int32) (mle9 : Int32) (mgr9 : Int32) (mpr9 : Int32) (mhp9 : Int32) (mtk9 : Int32) (mbn9 : Int32) (mmd9 : Int32) (mep9 : Int32) (mat9 : Int32) (mer9 : Int32) (mtx9 : Nat → Int32) (mki9 : Nat → Int32) (mln9 : Nat → Int32) (mdi9 : Nat → Int32) (mst9 : Nat → Int32) (mbi9 : Nat → Int32) (mou9 : Nat → Int32) (mco9 : Nat → Int32) (mct9 : Nat → Int32) (mfk9 : Nat → Int32) (mfl9 : Nat → Int32) (mfd9 : Nat → Int32) (mgo9 : Nat → Int32) (mma9 : Nat → Int32) (ov9 : Nat → Int64) (od9 : Nat → UInt64), v59 = v5 + 4 → Inv tn9 tb9 sw9 sl9 sg9 sp9 pn9 pch9 pk9 pl9 pd9 ps9 bn9 br9 rn9 rf9 rb9 msz9 mwi9 mle9 mgr9 mpr9 mhp9 mtk9 mbn9 mmd9 mep9 mtx9 mki9 mln9 mdi9 mst9 mbi9 mou9 → KB v59 tn9 tb9 sw9 sl9 sg9 sp9 ww9 wr9 wm9 wl9 wd9 pn9 pch9 pk9 pl9 pd9 ps9 bn9 br9 rn9 rf9 rx9 rp9 rb9 mth9 msz9 mwi9 mle9 mgr9 mpr9 mhp9 mtk9 mbn9 mmd9 mep9 mat9 mer9 mtx9 mki9 mln9 mdi9 mst9 mbi9 mou9 mco9 mct9 mfk9 mfl9 mfd9 mgo9 mma9 ov9 od9) : wpL_law_509 L xs v5 tn tb sw sl sg sp ww wr wm wl wd pn pch pk pl pd ps bn br rn rf rx rp rb msz mwi mle mgr mpr mhp mtk mbn mmd mep mat mer mtx mki mln mdi mst mbi mou mco mct mfk mfl mfd mgo mma ov od KB := by
  obtain ⟨hT, hSe, hPl, hB, hR⟩ := hI
  obtain ⟨n, hn, rfl, rfl, rfl, hby⟩ := id hT
  unfold wpL_law_509 wpL_byteAt wpX10_byteAt wpX10_thrown wpX9_byteAt wpX10_isPlace wpX10_no wpX8_has
  refine ⟨hv1, ?_⟩
  generalize xs (v5 + 1).toNatClampNeg = v
  by_cases c1 : v < 0
  · refine br_t c1 ?_
    refine br_t rfl ?_
    refine ⟨rfl, ?_⟩
    refine iIn0 (Or.inl c1) ?_
    refine ⟨nbz, ?_⟩
    refine br_t rfl ?_
    exact tlK1 (hKB _ _ _ _ _ _ _ _ _ _ _ _ _ _ _ _ _ _ _ _ _ _ _ _ _ _ _ _ _ _ _ _ _ _ _ _ _ _ _ _ _ _ _ _ _ _ _ _ _ _ _ _ _ _ rfl ⟨hT, hSe, hPl, hB, hR⟩)
  · by_cases c2 : nI n ≤ v
    · refine br_f c1 ?_
      refine br_t c2 ?_
      refine br_t rfl ?_
      refine ⟨rfl, ?_⟩
      refine iIn0 (Or.inr ((i_last (by omega)).mpr c2)) ?_
      refine ⟨nbz, ?_⟩
      refine br_t rfl ?_
      exact tlK1 (hKB _ _ _ _ _ _ _ _ _ _ _ _ _ _ _ _ _ _ _ _ _ _ _ _ _ _ _ _ _ _ _ _ _ _ _ _ _ _ _ _ _ _ _ _ _ _ _ _ _ _ _ _ _ _ rfl ⟨hT, hSe, hPl, hB, hR⟩)
    · obtain ⟨j, hj, rfl, hin⟩ := i_at (N := 64) c1 c2 hn (by decide)
      refine br_f c1 ?_
      refine br_f c2 ?_
      refine br_f ne10 ?_
      refine ⟨hin, ?_⟩
      refine iIn1 c1 (fun q => c2 ((i_last (by omega)).mp q)) ?_
      refine ⟨nbo, ?_⟩
      refine br_f ne10 ?_
      refine ⟨hin, ?_⟩
      exact tlK0 (tl0 (hKB _ _ _ _ _ _ _ _ _ _ _ _ _ _ _ _ _ _ _ _ _ _ _ _ _ _ _ _ _ _ _ _ _ _ _ _ _ _ _ _ _ _ _ _ _ _ _ _ _ _ _ _ _ _ rfl ⟨hT, hSe, hPl, hB, hR⟩))
set_option maxHeartbeats 1000000 in
theorem cs_565 {L : Nat} {xs : Nat → Int32} {v5 : Int32} {tn : Int32} {tb : Nat → Int32} {sw : Int32} {sl : Int32} {sg : Int32} {sp : Int32} {ww : Nat → Int32} {wr : Nat → Int32} {wm : Nat → Int32} {wl : Nat → Int32} {wd : Nat → Int32} {pn : Int32} {pch : Int32} {pk : Nat → Int32} {pl : Nat → Int32} {pd : Nat → Int32} {ps : Nat → Int32} {bn : Int32} {br : Nat → Int32} {rn : Int32} {rf : Int32} {rx : Int32} {rp : Int32} {rb : Nat → Int32} {mth : Int32} {msz : Int32} {mwi : Int32} {mle : Int32} {mgr : Int32} {mpr : Int32} {mhp : Int32} {mtk : Int32} {mbn : Int32} {mmd : Int32} {mep : Int32} {mat : Int32} {mer : Int32} {mtx : Nat → Int32} {mki : Nat → Int32} {mln : Nat → Int32} {mdi : Nat → Int32} {mst : Nat → Int32} {mbi : Nat → Int32} {mou : Nat → Int32} {mco : Nat → Int32} {mct : Nat → Int32} {mfk : Nat → Int32} {mfl : Nat → Int32} {mfd : Nat → Int32} {mgo : Nat → Int32} {mma : Nat → Int32} {ov : Nat → Int64} {od : Nat → UInt64} {KB : Int32 → Int32 → (Nat → Int32) → Int32 → Int32 → Int32 → Int32 → (Nat → Int32) → (Nat → Int32) → (Nat → Int32) → (Nat → Int32) → (Nat → Int32) → Int32 → Int32 → (Nat → Int32) → (Nat → Int32) → (Nat → Int32) → (Nat → Int32) → Int32 → (Nat → Int32) → Int32 → Int32 → Int32 → Int32 → (Nat → Int32) → Int32 → Int32 → Int32 → Int32 → Int32 → Int32 → Int32 → Int32 → Int32 → Int32 → Int32 → Int32 → Int32 → (Nat → Int32) → (Nat → Int32) → (Nat → Int32) → (Nat → Int32) → (Nat → Int32) → (Nat → Int32) → (Nat → Int32) → (Nat → Int32) → (Nat → Int32) → (Nat → Int32) → (Nat → Int32) → (Nat → Int32) → (Nat → Int32) → (Nat → Int32) → (Nat → Int64) → (Nat → UInt64) → Prop} (hI : Inv tn tb sw sl sg sp pn pch pk pl pd ps bn br rn rf rb msz mwi mle mgr mpr mhp mtk mbn mmd mep mtx mki mln mdi mst mbi mou) (hv1 : vp_in (v5 + 1) L) (hv2 : vp_in (v5 + 2) L) (hv3 : vp_in (v5 + 3) L) (hKB : ∀ (v59 : Int32) (tn9 : Int32) (tb9 : Nat → Int32) (sw9 : Int32) (sl9 : Int32) (sg9 : Int32) (sp9 : Int32) (ww9 : Nat → Int32) (wr9 : Nat → Int32) (wm9 : Nat → Int32) (wl9 : Nat → Int32) (wd9 : Nat → Int32) (pn9 : Int32) (pch9 : Int32) (pk9 : Nat → Int32) (pl9 : Nat → Int32) (pd9 : Nat → Int32) (ps9 : Nat → Int32) (bn9 : Int32) (br9 : Nat → Int32) (rn9 : Int32) (rf9 : Int32) (rx9 : Int32) (rp9 : Int32) (rb9 : Nat → Int32) (mth9 : Int32) (msz9 : Int32) (mwi9 : Int32) (mle9 : Int32) (mgr9 : Int32) (mpr9 : Int32) (mhp9 : Int32) (mtk9 : Int32) (mbn9 : Int32) (mmd9 : Int32) (mep9 : Int32) (mat9 : Int32) (mer9 : Int32) (mtx9 : Nat → Int32) (mki9 : Nat → Int32) (mln9 : Nat → Int32) (mdi9 : Nat → Int32) (mst9 : Nat → Int32) (mbi9 : Nat → Int32) (mou9 : Nat → Int32) (mco9 : Nat → Int32) (mct9 : Nat → Int32) (mfk9 : Nat → Int32) (mfl9 : Nat → Int32) (mfd9 : Nat → Int32) (mgo9 : Nat → Int32) (mma9 : Nat → Int32) (ov9 : Nat → Int64) (od9 : Nat → UInt64), v59 = v5 + 4 → Inv tn9 tb9 sw9 sl9 sg9 sp9 pn9 pch9 pk9 pl9 pd9 ps9 bn9 br9 rn9 rf9 rb9 msz9 mwi9 mle9 mgr9 mpr9 mhp9 mtk9 mbn9 mmd9 mep9 mtx9 mki9 mln9 mdi9 mst9 mbi9 mou9 → KB v59 tn9 tb9 sw9 sl9 sg9 sp9 ww9 wr9 wm9 wl9 wd9 pn9 pch9 pk9 pl9 pd9 ps9 bn9 br9 rn9 rf9 rx9 rp9 rb9 mth9 msz9 mwi9 mle9 mgr9 mpr9 mhp9 mtk9 mbn9 mmd9 mep9 mat9 mer9 mtx9 mki9 mln9 mdi9 mst9 mbi9 mou9 mco9 mct9 mfk9 mfl9 mfd9 mgo9 mma9 ov9 od9) : wpL_law_565 L xs v5 tn tb sw sl sg sp ww wr wm wl wd pn pch pk pl pd ps bn br rn rf rx rp rb msz mwi mle mgr mpr mhp mtk mbn mmd mep mat mer mtx mki mln mdi mst mbi mou mco mct mfk mfl mfd mgo mma ov od KB := by
  obtain ⟨hT, hSe, hPl, hB, hR⟩ := hI
  obtain ⟨w, le, gr, pr, hw, hle, hgr, hpr, ⟨rfl, rfl, rfl, rfl⟩, rfl, rfl, rfl, rfl⟩ := id hSe
  obtain ⟨rfl, rfl, rfl, rfl, rfl, hpl⟩ := id hPl
  unfold wpL_law_565 wpL_setWindow wpX10_setWindow wpX10_thrown wpX9_setWindow wpX10_no wpX4_forget
  refine ⟨hv1, ?_⟩
  generalize xs (v5 + 1).toNatClampNeg = v
  by_cases c1 : v < 1
  · refine br_t c1 ?_
    refine ⟨rfl, ?_⟩
    refine iIn0 (Or.inl c1) ?_
    refine br_t rfl ?_
    exact tlK1 (hKB _ _ _ _ _ _ _ _ _ _ _ _ _ _ _ _ _ _ _ _ _ _ _ _ _ _ _ _ _ _ _ _ _ _ _ _ _ _ _ _ _ _ _ _ _ _ _ _ _ _ _ _ _ _ rfl ⟨hT, hSe, hPl, hB, hR⟩)
  · by_cases c2 : v ≤ 64
    · obtain ⟨j, hj, rfl⟩ := i_nat (N := 64) (i_pos c1) c2 (by decide)
      refine br_f c1 ?_
      refine br_t c2 ?_
      refine iIn1 c1 (i_ngt c2) ?_
      refine br_f ne10 ?_
      have h1 : 1 ≤ j := by
        rcases Nat.lt_or_ge j 1 with q | q
        · exact absurd (nI_lt q (by decide) : nI j < nI 1) c1
        · exact q
      exact tlK0 (tl0 (hKB _ _ _ _ _ _ _ _ _ _ _ _ _ _ _ _ _ _ _ _ _ _ _ _ _ _ _ _ _ _ _ _ _ _ _ _ _ _ _ _ _ _ _ _ _ _ _ _ _ _ _ _ _ _ rfl ⟨hT, ⟨j, le, gr, pr, ⟨h1, hj⟩, hle, hgr, hpr, ⟨rfl, rfl, rfl, rfl⟩, rfl, rfl, rfl, rfl⟩, ⟨rfl, rfl, rfl, rfl, rfl, Or.inl ⟨rfl, rfl⟩⟩, hB, hR⟩))
    · refine br_f c1 ?_
      refine br_f c2 ?_
      refine ⟨rfl, ?_⟩
      refine iIn0 (Or.inr (i_gt c2)) ?_
      refine br_t rfl ?_
      exact tlK1 (hKB _ _ _ _ _ _ _ _ _ _ _ _ _ _ _ _ _ _ _ _ _ _ _ _ _ _ _ _ _ _ _ _ _ _ _ _ _ _ _ _ _ _ _ _ _ _ _ _ _ _ _ _ _ _ rfl ⟨hT, hSe, hPl, hB, hR⟩)
set_option maxHeartbeats 1000000 in
theorem cs_621 {L : Nat} {xs : Nat → Int32} {v5 : Int32} {tn : Int32} {tb : Nat → Int32} {sw : Int32} {sl : Int32} {sg : Int32} {sp : Int32} {ww : Nat → Int32} {wr : Nat → Int32} {wm : Nat → Int32} {wl : Nat → Int32} {wd : Nat → Int32} {pn : Int32} {pch : Int32} {pk : Nat → Int32} {pl : Nat → Int32} {pd : Nat → Int32} {ps : Nat → Int32} {bn : Int32} {br : Nat → Int32} {rn : Int32} {rf : Int32} {rx : Int32} {rp : Int32} {rb : Nat → Int32} {mth : Int32} {msz : Int32} {mwi : Int32} {mle : Int32} {mgr : Int32} {mpr : Int32} {mhp : Int32} {mtk : Int32} {mbn : Int32} {mmd : Int32} {mep : Int32} {mat : Int32} {mer : Int32} {mtx : Nat → Int32} {mki : Nat → Int32} {mln : Nat → Int32} {mdi : Nat → Int32} {mst : Nat → Int32} {mbi : Nat → Int32} {mou : Nat → Int32} {mco : Nat → Int32} {mct : Nat → Int32} {mfk : Nat → Int32} {mfl : Nat → Int32} {mfd : Nat → Int32} {mgo : Nat → Int32} {mma : Nat → Int32} {ov : Nat → Int64} {od : Nat → UInt64} {KB : Int32 → Int32 → (Nat → Int32) → Int32 → Int32 → Int32 → Int32 → (Nat → Int32) → (Nat → Int32) → (Nat → Int32) → (Nat → Int32) → (Nat → Int32) → Int32 → Int32 → (Nat → Int32) → (Nat → Int32) → (Nat → Int32) → (Nat → Int32) → Int32 → (Nat → Int32) → Int32 → Int32 → Int32 → Int32 → (Nat → Int32) → Int32 → Int32 → Int32 → Int32 → Int32 → Int32 → Int32 → Int32 → Int32 → Int32 → Int32 → Int32 → Int32 → (Nat → Int32) → (Nat → Int32) → (Nat → Int32) → (Nat → Int32) → (Nat → Int32) → (Nat → Int32) → (Nat → Int32) → (Nat → Int32) → (Nat → Int32) → (Nat → Int32) → (Nat → Int32) → (Nat → Int32) → (Nat → Int32) → (Nat → Int32) → (Nat → Int64) → (Nat → UInt64) → Prop} (hI : Inv tn tb sw sl sg sp pn pch pk pl pd ps bn br rn rf rb msz mwi mle mgr mpr mhp mtk mbn mmd mep mtx mki mln mdi mst mbi mou) (hv1 : vp_in (v5 + 1) L) (hv2 : vp_in (v5 + 2) L) (hv3 : vp_in (v5 + 3) L) (hKB : ∀ (v59 : Int32) (tn9 : Int32) (tb9 : Nat → Int32) (sw9 : Int32) (sl9 : Int32) (sg9 : Int32) (sp9 : Int32) (ww9 : Nat → Int32) (wr9 : Nat → Int32) (wm9 : Nat → Int32) (wl9 : Nat → Int32) (wd9 : Nat → Int32) (pn9 : Int32) (pch9 : Int32) (pk9 : Nat → Int32) (pl9 : Nat → Int32) (pd9 : Nat → Int32) (ps9 : Nat → Int32) (bn9 : Int32) (br9 : Nat → Int32) (rn9 : Int32) (rf9 : Int32) (rx9 : Int32) (rp9 : Int32) (rb9 : Nat → Int32) (mth9 : Int32) (msz9 : Int32) (mwi9 : Int32) (mle9 : Int32) (mgr9 : Int32) (mpr9 : Int32) (mhp9 : Int32) (mtk9 : Int32) (mbn9 : Int32) (mmd9 : Int32) (mep9 : Int32) (mat9 : Int32) (mer9 : Int32) (mtx9 : Nat → Int32) (mki9 : Nat → Int32) (mln9 : Nat → Int32) (mdi9 : Nat → Int32) (mst9 : Nat → Int32) (mbi9 : Nat → Int32) (mou9 : Nat → Int32) (mco9 : Nat → Int32) (mct9 : Nat → Int32) (mfk9 : Nat → Int32) (mfl9 : Nat → Int32) (mfd9 : Nat → Int32) (mgo9 : Nat → Int32) (mma9 : Nat → Int32) (ov9 : Nat → Int64) (od9 : Nat → UInt64), v59 = v5 + 4 → Inv tn9 tb9 sw9 sl9 sg9 sp9 pn9 pch9 pk9 pl9 pd9 ps9 bn9 br9 rn9 rf9 rb9 msz9 mwi9 mle9 mgr9 mpr9 mhp9 mtk9 mbn9 mmd9 mep9 mtx9 mki9 mln9 mdi9 mst9 mbi9 mou9 → KB v59 tn9 tb9 sw9 sl9 sg9 sp9 ww9 wr9 wm9 wl9 wd9 pn9 pch9 pk9 pl9 pd9 ps9 bn9 br9 rn9 rf9 rx9 rp9 rb9 mth9 msz9 mwi9 mle9 mgr9 mpr9 mhp9 mtk9 mbn9 mmd9 mep9 mat9 mer9 mtx9 mki9 mln9 mdi9 mst9 mbi9 mou9 mco9 mct9 mfk9 mfl9 mfd9 mgo9 mma9 ov9 od9) : wpL_law_621 L xs v5 tn tb sw sl sg sp ww wr wm wl wd pn pch pk pl pd ps bn br rn rf rx rp rb msz mwi mle mgr mpr mhp mtk mbn mmd mep mat mer mtx mki mln mdi mst mbi mou mco mct mfk mfl mfd mgo mma ov od KB := by
  obtain ⟨hT, hSe, hPl, hB, hR⟩ := hI
  obtain ⟨w, le, gr, pr, hw, hle, hgr, hpr, ⟨rfl, rfl, rfl, rfl⟩, rfl, rfl, rfl, rfl⟩ := id hSe
  obtain ⟨rfl, rfl, rfl, rfl, rfl, hpl⟩ := id hPl
  unfold wpL_law_621 wpL_setLengths wpX10_setLengths wpX10_thrown wpX9_setLengths wpX10_setLengths_31 wpX9_setLengths_74 wpX4_forget
  refine ⟨hv1, hv2, ?_⟩
  generalize xs (v5 + 1).toNatClampNeg = a
  generalize xs (v5 + 2).toNatClampNeg = b
  by_cases c1 : a < 2
  · refine br_t c1 ?_
    refine ⟨rfl, ?_⟩
    refine iIn0 (Or.inl c1) ?_
    refine br_t rfl ?_
    refine br_f ne10 ?_
    exact tlK1 (hKB _ _ _ _ _ _ _ _ _ _ _ _ _ _ _ _ _ _ _ _ _ _ _ _ _ _ _ _ _ _ _ _ _ _ _ _ _ _ _ _ _ _ _ _ _ _ _ _ _ _ _ _ _ _ rfl ⟨hT, hSe, hPl, hB, hR⟩)
  · by_cases c2 : a ≤ 6
    · refine br_f c1 ?_
      refine br_t c2 ?_
      by_cases c3 : b < 2
      · refine br_t c3 ?_
        refine ⟨rfl, ?_⟩
        refine iIn1 c1 (i_ngt c2) ?_
        refine br_f ne10 ?_
        refine iIn0 (Or.inl c3) ?_
        refine br_t rfl ?_
        refine br_f ne10 ?_
        exact tlK1 (hKB _ _ _ _ _ _ _ _ _ _ _ _ _ _ _ _ _ _ _ _ _ _ _ _ _ _ _ _ _ _ _ _ _ _ _ _ _ _ _ _ _ _ _ _ _ _ _ _ _ _ _ _ _ _ rfl ⟨hT, hSe, hPl, hB, hR⟩)
      · by_cases c4 : 64 < b
        · refine br_f c3 ?_
          refine br_t c4 ?_
          refine ⟨rfl, ?_⟩
          refine iIn1 c1 (i_ngt c2) ?_
          refine br_f ne10 ?_
          refine iIn0 (Or.inr c4) ?_
          refine br_t rfl ?_
          refine br_f ne10 ?_
          exact tlK1 (hKB _ _ _ _ _ _ _ _ _ _ _ _ _ _ _ _ _ _ _ _ _ _ _ _ _ _ _ _ _ _ _ _ _ _ _ _ _ _ _ _ _ _ _ _ _ _ _ _ _ _ _ _ _ _ rfl ⟨hT, hSe, hPl, hB, hR⟩)
        · refine br_f c3 ?_
          refine br_f c4 ?_
          by_cases c5 : a ≤ b
          · obtain ⟨x, hx, rfl⟩ := i_nat (N := 6) (i_pos2 c1) c2 (by decide)
            obtain ⟨y, hy, rfl⟩ := i_nat (N := 64) (i_pos2 c3) (i_ge c4) (by decide)
            have h1 : 2 ≤ x := by
              rcases Nat.lt_or_ge x 2 with q | q
              · exact absurd (nI_lt q (by decide) : nI x < nI 2) c1
              · exact q
            have h2 : x ≤ y := (nI_leI (by omega) (by omega)).mp c5
            have hS2 : IS (nI w) (nI x) (nI y) (nI pr) (nI w) (nI x) (nI y) (nI pr) := ⟨w, x, y, pr, hw, ⟨h1, hx⟩, ⟨h2, hy⟩, hpr, ⟨rfl, rfl, rfl, rfl⟩, rfl, rfl, rfl, rfl⟩
            refine br_t c5 ?_
            by_cases d1 : nI x = nI le
            · by_cases d2 : nI y = nI gr
              · refine br_t d1 ?_
                refine br_t d2 ?_
                refine ⟨nbz, ?_⟩
                refine br_t rfl ?_
                refine iIn1 c1 (i_ngt c2) ?_
                refine br_f ne10 ?_
                refine iIn1 c3 c4 ?_
                refine br_f ne10 ?_
                refine br_f (i_ngt c5) ?_
                refine br_t rfl ?_
                refine br_t d1.symm ?_
                refine br_t d2.symm ?_
                exact tlK0 (br_t rfl (tl0 (hKB _ _ _ _ _ _ _ _ _ _ _ _ _ _ _ _ _ _ _ _ _ _ _ _ _ _ _ _ _ _ _ _ _ _ _ _ _ _ _ _ _ _ _ _ _ _ _ _ _ _ _ _ _ _ rfl ⟨hT, hS2, ⟨rfl, rfl, rfl, rfl, rfl, Or.inl ⟨rfl, rfl⟩⟩, hB, hR⟩)))
              · refine br_t d1 ?_
                refine br_f d2 ?_
                refine ⟨nbo, ?_⟩
                refine br_f ne10 ?_
                refine iIn1 c1 (i_ngt c2) (br_f ne10 (iIn1 c3 c4 (br_f ne10 (br_f (i_ngt c5) (br_t rfl (br_t d1.symm (br_f (fun q => d2 q.symm) ?_)))))))
                exact tlK0 (br_f ne10 (tl0 (hKB _ _ _ _ _ _ _ _ _ _ _ _ _ _ _ _ _ _ _ _ _ _ _ _ _ _ _ _ _ _ _ _ _ _ _ _ _ _ _ _ _ _ _ _ _ _ _ _ _ _ _ _ _ _ rfl ⟨hT, hS2, ⟨rfl, rfl, rfl, rfl, rfl, Or.inl ⟨rfl, rfl⟩⟩, hB, hR⟩)))
            · refine br_f d1 ?_
              refine ⟨nbo, ?_⟩
              refine br_f ne10 ?_
              refine iIn1 c1 (i_ngt c2) (br_f ne10 (iIn1 c3 c4 (br_f ne10 (br_f (i_ngt c5) (br_t rfl (br_f (fun q => d1 q.symm) ?_))))))
              exact tlK0 (br_f ne10 (tl0 (hKB _ _ _ _ _ _ _ _ _ _ _ _ _ _ _ _ _ _ _ _ _ _ _ _ _ _ _ _ _ _ _ _ _ _ _ _ _ _ _ _ _ _ _ _ _ _ _ _ _ _ _ _ _ _ rfl ⟨hT, hS2, ⟨rfl, rfl, rfl, rfl, rfl, Or.inl ⟨rfl, rfl⟩⟩, hB, hR⟩)))
          · refine br_f c5 ?_
            refine ⟨rfl, ?_⟩
            refine iIn1 c1 (i_ngt c2) ?_
            refine br_f ne10 ?_
            refine iIn1 c3 c4 ?_
            refine br_f ne10 ?_
            refine br_t (i_gt c5) ?_
            refine br_f ne10 ?_
            exact tlK1 (hKB _ _ _ _ _ _ _ _ _ _ _ _ _ _ _ _ _ _ _ _ _ _ _ _ _ _ _ _ _ _ _ _ _ _ _ _ _ _ _ _ _ _ _ _ _ _ _ _ _ _ _ _ _ _ rfl ⟨hT, hSe, hPl, hB, hR⟩)
    · refine br_f c1 ?_
      refine br_f c2 ?_
      refine ⟨rfl, ?_⟩
      refine iIn0 (Or.inr (i_gt c2)) ?_
      refine br_t rfl ?_
      refine br_f ne10 ?_
      exact tlK1 (hKB _ _ _ _ _ _ _ _ _ _ _ _ _ _ _ _ _ _ _ _ _ _ _ _ _ _ _ _ _ _ _ _ _ _ _ _ _ _ _ _ _ _ _ _ _ _ _ _ _ _ _ _ _ _ rfl ⟨hT, hSe, hPl, hB, hR⟩)
set_option maxHeartbeats 1000000 in
theorem cs_696 {L : Nat} {xs : Nat → Int32} {v5 : Int32} {tn : Int32} {tb : Nat → Int32} {sw : Int32} {sl : Int32} {sg : Int32} {sp : Int32} {ww : Nat → Int32} {wr : Nat → Int32} {wm : Nat → Int32} {wl : Nat → Int32} {wd : Nat → Int32} {pn : Int32} {pch : Int32} {pk : Nat → Int32} {pl : Nat → Int32} {pd : Nat → Int32} {ps : Nat → Int32} {bn : Int32} {br : Nat → Int32} {rn : Int32} {rf : Int32} {rx : Int32} {rp : Int32} {rb : Nat → Int32} {mth : Int32} {msz : Int32} {mwi : Int32} {mle : Int32} {mgr : Int32} {mpr : Int32} {mhp : Int32} {mtk : Int32} {mbn : Int32} {mmd : Int32} {mep : Int32} {mat : Int32} {mer : Int32} {mtx : Nat → Int32} {mki : Nat → Int32} {mln : Nat → Int32} {mdi : Nat → Int32} {mst : Nat → Int32} {mbi : Nat → Int32} {mou : Nat → Int32} {mco : Nat → Int32} {mct : Nat → Int32} {mfk : Nat → Int32} {mfl : Nat → Int32} {mfd : Nat → Int32} {mgo : Nat → Int32} {mma : Nat → Int32} {ov : Nat → Int64} {od : Nat → UInt64} {KB : Int32 → Int32 → (Nat → Int32) → Int32 → Int32 → Int32 → Int32 → (Nat → Int32) → (Nat → Int32) → (Nat → Int32) → (Nat → Int32) → (Nat → Int32) → Int32 → Int32 → (Nat → Int32) → (Nat → Int32) → (Nat → Int32) → (Nat → Int32) → Int32 → (Nat → Int32) → Int32 → Int32 → Int32 → Int32 → (Nat → Int32) → Int32 → Int32 → Int32 → Int32 → Int32 → Int32 → Int32 → Int32 → Int32 → Int32 → Int32 → Int32 → Int32 → (Nat → Int32) → (Nat → Int32) → (Nat → Int32) → (Nat → Int32) → (Nat → Int32) → (Nat → Int32) → (Nat → Int32) → (Nat → Int32) → (Nat → Int32) → (Nat → Int32) → (Nat → Int32) → (Nat → Int32) → (Nat → Int32) → (Nat → Int32) → (Nat → Int64) → (Nat → UInt64) → Prop} (hI : Inv tn tb sw sl sg sp pn pch pk pl pd ps bn br rn rf rb msz mwi mle mgr mpr mhp mtk mbn mmd mep mtx mki mln mdi mst mbi mou) (hv1 : vp_in (v5 + 1) L) (hv2 : vp_in (v5 + 2) L) (hv3 : vp_in (v5 + 3) L) (hKB : ∀ (v59 : Int32) (tn9 : Int32) (tb9 : Nat → Int32) (sw9 : Int32) (sl9 : Int32) (sg9 : Int32) (sp9 : Int32) (ww9 : Nat → Int32) (wr9 : Nat → Int32) (wm9 : Nat → Int32) (wl9 : Nat → Int32) (wd9 : Nat → Int32) (pn9 : Int32) (pch9 : Int32) (pk9 : Nat → Int32) (pl9 : Nat → Int32) (pd9 : Nat → Int32) (ps9 : Nat → Int32) (bn9 : Int32) (br9 : Nat → Int32) (rn9 : Int32) (rf9 : Int32) (rx9 : Int32) (rp9 : Int32) (rb9 : Nat → Int32) (mth9 : Int32) (msz9 : Int32) (mwi9 : Int32) (mle9 : Int32) (mgr9 : Int32) (mpr9 : Int32) (mhp9 : Int32) (mtk9 : Int32) (mbn9 : Int32) (mmd9 : Int32) (mep9 : Int32) (mat9 : Int32) (mer9 : Int32) (mtx9 : Nat → Int32) (mki9 : Nat → Int32) (mln9 : Nat → Int32) (mdi9 : Nat → Int32) (mst9 : Nat → Int32) (mbi9 : Nat → Int32) (mou9 : Nat → Int32) (mco9 : Nat → Int32) (mct9 : Nat → Int32) (mfk9 : Nat → Int32) (mfl9 : Nat → Int32) (mfd9 : Nat → Int32) (mgo9 : Nat → Int32) (mma9 : Nat → Int32) (ov9 : Nat → Int64) (od9 : Nat → UInt64), v59 = v5 + 4 → Inv tn9 tb9 sw9 sl9 sg9 sp9 pn9 pch9 pk9 pl9 pd9 ps9 bn9 br9 rn9 rf9 rb9 msz9 mwi9 mle9 mgr9 mpr9 mhp9 mtk9 mbn9 mmd9 mep9 mtx9 mki9 mln9 mdi9 mst9 mbi9 mou9 → KB v59 tn9 tb9 sw9 sl9 sg9 sp9 ww9 wr9 wm9 wl9 wd9 pn9 pch9 pk9 pl9 pd9 ps9 bn9 br9 rn9 rf9 rx9 rp9 rb9 mth9 msz9 mwi9 mle9 mgr9 mpr9 mhp9 mtk9 mbn9 mmd9 mep9 mat9 mer9 mtx9 mki9 mln9 mdi9 mst9 mbi9 mou9 mco9 mct9 mfk9 mfl9 mfd9 mgo9 mma9 ov9 od9) : wpL_law_696 L xs v5 tn tb sw sl sg sp ww wr wm wl wd pn pch pk pl pd ps bn br rn rf rx rp rb msz mwi mle mgr mpr mhp mtk mbn mmd mep mat mer mtx mki mln mdi mst mbi mou mco mct mfk mfl mfd mgo mma ov od KB := by
  obtain ⟨hT, hSe, hPl, hB, hR⟩ := hI
  obtain ⟨w, le, gr, pr, hw, hle, hgr, hpr, ⟨rfl, rfl, rfl, rfl⟩, rfl, rfl, rfl, rfl⟩ := id hSe
  obtain ⟨rfl, rfl, rfl, rfl, rfl, hpl⟩ := id hPl
  unfold wpL_law_696 wpL_setPrice wpX10_setPrice wpX10_thrown wpX9_setPrice wpX10_no wpX4_forget
  refine ⟨hv1, ?_⟩
  generalize xs (v5 + 1).toNatClampNeg = v
  by_cases c1 : v < 0
  · refine br_t c1 ?_
    refine ⟨rfl, ?_⟩
    refine iIn0 (Or.inl c1) ?_
    refine br_t rfl ?_
    exact tlK1 (hKB _ _ _ _ _ _ _ _ _ _ _ _ _ _ _ _ _ _ _ _ _ _ _ _ _ _ _ _ _ _ _ _ _ _ _ _ _ _ _ _ _ _ _ _ _ _ _ _ _ _ _ _ _ _ rfl ⟨hT, hSe, hPl, hB, hR⟩)
  · by_cases c2 : v ≤ 30
    · obtain ⟨j, hj, rfl⟩ := i_nat (N := 30) c1 c2 (by decide)
      refine br_f c1 ?_
      refine br_t c2 ?_
      refine iIn1 c1 (i_ngt c2) ?_
      refine br_f ne10 ?_
      exact tlK0 (tl0 (hKB _ _ _ _ _ _ _ _ _ _ _ _ _ _ _ _ _ _ _ _ _ _ _ _ _ _ _ _ _ _ _ _ _ _ _ _ _ _ _ _ _ _ _ _ _ _ _ _ _ _ _ _ _ _ rfl ⟨hT, ⟨w, le, gr, j, hw, hle, hgr, hj, ⟨rfl, rfl, rfl, rfl⟩, rfl, rfl, rfl, rfl⟩, ⟨rfl, rfl, rfl, rfl, rfl, Or.inl ⟨rfl, rfl⟩⟩, hB, hR⟩))
    · refine br_f c1 ?_
      refine br_f c2 ?_
      refine ⟨rfl, ?_⟩
      refine iIn0 (Or.inr (i_gt c2)) ?_
      refine br_t rfl ?_
      exact tlK1 (hKB _ _ _ _ _ _ _ _ _ _ _ _ _ _ _ _ _ _ _ _ _ _ _ _ _ _ _ _ _ _ _ _ _ _ _ _ _ _ _ _ _ _ _ _ _ _ _ _ _ _ _ _ _ _ rfl ⟨hT, hSe, hPl, hB, hR⟩)
set_option maxHeartbeats 1000000 in
theorem cs_1027 {L : Nat} {xs : Nat → Int32} {v5 : Int32} {tn : Int32} {tb : Nat → Int32} {sw : Int32} {sl : Int32} {sg : Int32} {sp : Int32} {ww : Nat → Int32} {wr : Nat → Int32} {wm : Nat → Int32} {wl : Nat → Int32} {wd : Nat → Int32} {pn : Int32} {pch : Int32} {pk : Nat → Int32} {pl : Nat → Int32} {pd : Nat → Int32} {ps : Nat → Int32} {bn : Int32} {br : Nat → Int32} {rn : Int32} {rf : Int32} {rx : Int32} {rp : Int32} {rb : Nat → Int32} {mth : Int32} {msz : Int32} {mwi : Int32} {mle : Int32} {mgr : Int32} {mpr : Int32} {mhp : Int32} {mtk : Int32} {mbn : Int32} {mmd : Int32} {mep : Int32} {mat : Int32} {mer : Int32} {mtx : Nat → Int32} {mki : Nat → Int32} {mln : Nat → Int32} {mdi : Nat → Int32} {mst : Nat → Int32} {mbi : Nat → Int32} {mou : Nat → Int32} {mco : Nat → Int32} {mct : Nat → Int32} {mfk : Nat → Int32} {mfl : Nat → Int32} {mfd : Nat → Int32} {mgo : Nat → Int32} {mma : Nat → Int32} {ov : Nat → Int64} {od : Nat → UInt64} {KB : Int32 → Int32 → (Nat → Int32) → Int32 → Int32 → Int32 → Int32 → (Nat → Int32) → (Nat → Int32) → (Nat → Int32) → (Nat → Int32) → (Nat → Int32) → Int32 → Int32 → (Nat → Int32) → (Nat → Int32) → (Nat → Int32) → (Nat → Int32) → Int32 → (Nat → Int32) → Int32 → Int32 → Int32 → Int32 → (Nat → Int32) → Int32 → Int32 → Int32 → Int32 → Int32 → Int32 → Int32 → Int32 → Int32 → Int32 → Int32 → Int32 → Int32 → (Nat → Int32) → (Nat → Int32) → (Nat → Int32) → (Nat → Int32) → (Nat → Int32) → (Nat → Int32) → (Nat → Int32) → (Nat → Int32) → (Nat → Int32) → (Nat → Int32) → (Nat → Int32) → (Nat → Int32) → (Nat → Int32) → (Nat → Int32) → (Nat → Int64) → (Nat → UInt64) → Prop} (hI : Inv tn tb sw sl sg sp pn pch pk pl pd ps bn br rn rf rb msz mwi mle mgr mpr mhp mtk mbn mmd mep mtx mki mln mdi mst mbi mou) (hv1 : vp_in (v5 + 1) L) (hv2 : vp_in (v5 + 2) L) (hv3 : vp_in (v5 + 3) L) (hKB : ∀ (v59 : Int32) (tn9 : Int32) (tb9 : Nat → Int32) (sw9 : Int32) (sl9 : Int32) (sg9 : Int32) (sp9 : Int32) (ww9 : Nat → Int32) (wr9 : Nat → Int32) (wm9 : Nat → Int32) (wl9 : Nat → Int32) (wd9 : Nat → Int32) (pn9 : Int32) (pch9 : Int32) (pk9 : Nat → Int32) (pl9 : Nat → Int32) (pd9 : Nat → Int32) (ps9 : Nat → Int32) (bn9 : Int32) (br9 : Nat → Int32) (rn9 : Int32) (rf9 : Int32) (rx9 : Int32) (rp9 : Int32) (rb9 : Nat → Int32) (mth9 : Int32) (msz9 : Int32) (mwi9 : Int32) (mle9 : Int32) (mgr9 : Int32) (mpr9 : Int32) (mhp9 : Int32) (mtk9 : Int32) (mbn9 : Int32) (mmd9 : Int32) (mep9 : Int32) (mat9 : Int32) (mer9 : Int32) (mtx9 : Nat → Int32) (mki9 : Nat → Int32) (mln9 : Nat → Int32) (mdi9 : Nat → Int32) (mst9 : Nat → Int32) (mbi9 : Nat → Int32) (mou9 : Nat → Int32) (mco9 : Nat → Int32) (mct9 : Nat → Int32) (mfk9 : Nat → Int32) (mfl9 : Nat → Int32) (mfd9 : Nat → Int32) (mgo9 : Nat → Int32) (mma9 : Nat → Int32) (ov9 : Nat → Int64) (od9 : Nat → UInt64), v59 = v5 + 4 → Inv tn9 tb9 sw9 sl9 sg9 sp9 pn9 pch9 pk9 pl9 pd9 ps9 bn9 br9 rn9 rf9 rb9 msz9 mwi9 mle9 mgr9 mpr9 mhp9 mtk9 mbn9 mmd9 mep9 mtx9 mki9 mln9 mdi9 mst9 mbi9 mou9 → KB v59 tn9 tb9 sw9 sl9 sg9 sp9 ww9 wr9 wm9 wl9 wd9 pn9 pch9 pk9 pl9 pd9 ps9 bn9 br9 rn9 rf9 rx9 rp9 rb9 mth9 msz9 mwi9 mle9 mgr9 mpr9 mhp9 mtk9 mbn9 mmd9 mep9 mat9 mer9 mtx9 mki9 mln9 mdi9 mst9 mbi9 mou9 mco9 mct9 mfk9 mfl9 mfd9 mgo9 mma9 ov9 od9) : wpL_law_1027 v5 tn tb sw sl sg sp ww wr wm wl wd pn pch pk pl pd ps bn br rn rf rx rp rb msz mwi mle mgr mpr mhp mtk mbn mmd mep mat mer mtx mki mln mdi mst mbi mou mco mct mfk mfl mfd mgo mma ov od KB := by
  obtain ⟨hT, hSe, hPl, hB, hR⟩ := hI
  obtain ⟨rfl, rfl, rfl, rfl, rfl, hpl⟩ := id hPl
  unfold wpL_law_1027 wpX9_hasPlan wpX10_hasPlan
  have hn9 : nb9 mhp := by
    rcases hpl with ⟨rfl, -⟩ | ⟨rfl, -⟩
    · exact nbz
    · exact nbo
  exact ⟨hn9, hn9, fun _ => (hKB _ _ _ _ _ _ _ _ _ _ _ _ _ _ _ _ _ _ _ _ _ _ _ _ _ _ _ _ _ _ _ _ _ _ _ _ _ _ _ _ _ _ _ _ _ _ _ _ _ _ _ _ _ _ rfl ⟨hT, hSe, hPl, hB, hR⟩), fun q => absurd rfl q⟩
set_option maxHeartbeats 1000000 in
theorem cs_1473 {L : Nat} {xs : Nat → Int32} {v5 : Int32} {tn : Int32} {tb : Nat → Int32} {sw : Int32} {sl : Int32} {sg : Int32} {sp : Int32} {ww : Nat → Int32} {wr : Nat → Int32} {wm : Nat → Int32} {wl : Nat → Int32} {wd : Nat → Int32} {pn : Int32} {pch : Int32} {pk : Nat → Int32} {pl : Nat → Int32} {pd : Nat → Int32} {ps : Nat → Int32} {bn : Int32} {br : Nat → Int32} {rn : Int32} {rf : Int32} {rx : Int32} {rp : Int32} {rb : Nat → Int32} {mth : Int32} {msz : Int32} {mwi : Int32} {mle : Int32} {mgr : Int32} {mpr : Int32} {mhp : Int32} {mtk : Int32} {mbn : Int32} {mmd : Int32} {mep : Int32} {mat : Int32} {mer : Int32} {mtx : Nat → Int32} {mki : Nat → Int32} {mln : Nat → Int32} {mdi : Nat → Int32} {mst : Nat → Int32} {mbi : Nat → Int32} {mou : Nat → Int32} {mco : Nat → Int32} {mct : Nat → Int32} {mfk : Nat → Int32} {mfl : Nat → Int32} {mfd : Nat → Int32} {mgo : Nat → Int32} {mma : Nat → Int32} {ov : Nat → Int64} {od : Nat → UInt64} {KB : Int32 → Int32 → (Nat → Int32) → Int32 → Int32 → Int32 → Int32 → (Nat → Int32) → (Nat → Int32) → (Nat → Int32) → (Nat → Int32) → (Nat → Int32) → Int32 → Int32 → (Nat → Int32) → (Nat → Int32) → (Nat → Int32) → (Nat → Int32) → Int32 → (Nat → Int32) → Int32 → Int32 → Int32 → Int32 → (Nat → Int32) → Int32 → Int32 → Int32 → Int32 → Int32 → Int32 → Int32 → Int32 → Int32 → Int32 → Int32 → Int32 → Int32 → (Nat → Int32) → (Nat → Int32) → (Nat → Int32) → (Nat → Int32) → (Nat → Int32) → (Nat → Int32) → (Nat → Int32) → (Nat → Int32) → (Nat → Int32) → (Nat → Int32) → (Nat → Int32) → (Nat → Int32) → (Nat → Int32) → (Nat → Int32) → (Nat → Int64) → (Nat → UInt64) → Prop} (hI : Inv tn tb sw sl sg sp pn pch pk pl pd ps bn br rn rf rb msz mwi mle mgr mpr mhp mtk mbn mmd mep mtx mki mln mdi mst mbi mou) (hv1 : vp_in (v5 + 1) L) (hv2 : vp_in (v5 + 2) L) (hv3 : vp_in (v5 + 3) L) (hKB : ∀ (v59 : Int32) (tn9 : Int32) (tb9 : Nat → Int32) (sw9 : Int32) (sl9 : Int32) (sg9 : Int32) (sp9 : Int32) (ww9 : Nat → Int32) (wr9 : Nat → Int32) (wm9 : Nat → Int32) (wl9 : Nat → Int32) (wd9 : Nat → Int32) (pn9 : Int32) (pch9 : Int32) (pk9 : Nat → Int32) (pl9 : Nat → Int32) (pd9 : Nat → Int32) (ps9 : Nat → Int32) (bn9 : Int32) (br9 : Nat → Int32) (rn9 : Int32) (rf9 : Int32) (rx9 : Int32) (rp9 : Int32) (rb9 : Nat → Int32) (mth9 : Int32) (msz9 : Int32) (mwi9 : Int32) (mle9 : Int32) (mgr9 : Int32) (mpr9 : Int32) (mhp9 : Int32) (mtk9 : Int32) (mbn9 : Int32) (mmd9 : Int32) (mep9 : Int32) (mat9 : Int32) (mer9 : Int32) (mtx9 : Nat → Int32) (mki9 : Nat → Int32) (mln9 : Nat → Int32) (mdi9 : Nat → Int32) (mst9 : Nat → Int32) (mbi9 : Nat → Int32) (mou9 : Nat → Int32) (mco9 : Nat → Int32) (mct9 : Nat → Int32) (mfk9 : Nat → Int32) (mfl9 : Nat → Int32) (mfd9 : Nat → Int32) (mgo9 : Nat → Int32) (mma9 : Nat → Int32) (ov9 : Nat → Int64) (od9 : Nat → UInt64), v59 = v5 + 4 → Inv tn9 tb9 sw9 sl9 sg9 sp9 pn9 pch9 pk9 pl9 pd9 ps9 bn9 br9 rn9 rf9 rb9 msz9 mwi9 mle9 mgr9 mpr9 mhp9 mtk9 mbn9 mmd9 mep9 mtx9 mki9 mln9 mdi9 mst9 mbi9 mou9 → KB v59 tn9 tb9 sw9 sl9 sg9 sp9 ww9 wr9 wm9 wl9 wd9 pn9 pch9 pk9 pl9 pd9 ps9 bn9 br9 rn9 rf9 rx9 rp9 rb9 mth9 msz9 mwi9 mle9 mgr9 mpr9 mhp9 mtk9 mbn9 mmd9 mep9 mat9 mer9 mtx9 mki9 mln9 mdi9 mst9 mbi9 mou9 mco9 mct9 mfk9 mfl9 mfd9 mgo9 mma9 ov9 od9) : wpL_law_1473 v5 tn tb sw sl sg sp ww wr wm wl wd pn pch pk pl pd ps bn br rn rf rx rp rb msz mwi mle mgr mpr mhp mtk mbn mmd mep mat mer mtx mki mln mdi mst mbi mou mco mct mfk mfl mfd mgo mma ov od KB := by
  obtain ⟨hT, hSe, hPl, hB, hR⟩ := hI
  obtain ⟨k, hk, rfl, rfl, rfl, hbi⟩ := id hB
  unfold wpL_law_1473 wpX9_bitCount wpX10_bitCount
  exact ⟨fun _ => (hKB _ _ _ _ _ _ _ _ _ _ _ _ _ _ _ _ _ _ _ _ _ _ _ _ _ _ _ _ _ _ _ _ _ _ _ _ _ _ _ _ _ _ _ _ _ _ _ _ _ _ _ _ _ _ rfl ⟨hT, hSe, hPl, hB, hR⟩), fun q => absurd rfl q⟩
set_option maxHeartbeats 1000000 in
theorem cs_1735 {L : Nat} {xs : Nat → Int32} {v5 : Int32} {tn : Int32} {tb : Nat → Int32} {sw : Int32} {sl : Int32} {sg : Int32} {sp : Int32} {ww : Nat → Int32} {wr : Nat → Int32} {wm : Nat → Int32} {wl : Nat → Int32} {wd : Nat → Int32} {pn : Int32} {pch : Int32} {pk : Nat → Int32} {pl : Nat → Int32} {pd : Nat → Int32} {ps : Nat → Int32} {bn : Int32} {br : Nat → Int32} {rn : Int32} {rf : Int32} {rx : Int32} {rp : Int32} {rb : Nat → Int32} {mth : Int32} {msz : Int32} {mwi : Int32} {mle : Int32} {mgr : Int32} {mpr : Int32} {mhp : Int32} {mtk : Int32} {mbn : Int32} {mmd : Int32} {mep : Int32} {mat : Int32} {mer : Int32} {mtx : Nat → Int32} {mki : Nat → Int32} {mln : Nat → Int32} {mdi : Nat → Int32} {mst : Nat → Int32} {mbi : Nat → Int32} {mou : Nat → Int32} {mco : Nat → Int32} {mct : Nat → Int32} {mfk : Nat → Int32} {mfl : Nat → Int32} {mfd : Nat → Int32} {mgo : Nat → Int32} {mma : Nat → Int32} {ov : Nat → Int64} {od : Nat → UInt64} {KB : Int32 → Int32 → (Nat → Int32) → Int32 → Int32 → Int32 → Int32 → (Nat → Int32) → (Nat → Int32) → (Nat → Int32) → (Nat → Int32) → (Nat → Int32) → Int32 → Int32 → (Nat → Int32) → (Nat → Int32) → (Nat → Int32) → (Nat → Int32) → Int32 → (Nat → Int32) → Int32 → Int32 → Int32 → Int32 → (Nat → Int32) → Int32 → Int32 → Int32 → Int32 → Int32 → Int32 → Int32 → Int32 → Int32 → Int32 → Int32 → Int32 → Int32 → (Nat → Int32) → (Nat → Int32) → (Nat → Int32) → (Nat → Int32) → (Nat → Int32) → (Nat → Int32) → (Nat → Int32) → (Nat → Int32) → (Nat → Int32) → (Nat → Int32) → (Nat → Int32) → (Nat → Int32) → (Nat → Int32) → (Nat → Int32) → (Nat → Int64) → (Nat → UInt64) → Prop} (hI : Inv tn tb sw sl sg sp pn pch pk pl pd ps bn br rn rf rb msz mwi mle mgr mpr mhp mtk mbn mmd mep mtx mki mln mdi mst mbi mou) (hv1 : vp_in (v5 + 1) L) (hv2 : vp_in (v5 + 2) L) (hv3 : vp_in (v5 + 3) L) (hKB : ∀ (v59 : Int32) (tn9 : Int32) (tb9 : Nat → Int32) (sw9 : Int32) (sl9 : Int32) (sg9 : Int32) (sp9 : Int32) (ww9 : Nat → Int32) (wr9 : Nat → Int32) (wm9 : Nat → Int32) (wl9 : Nat → Int32) (wd9 : Nat → Int32) (pn9 : Int32) (pch9 : Int32) (pk9 : Nat → Int32) (pl9 : Nat → Int32) (pd9 : Nat → Int32) (ps9 : Nat → Int32) (bn9 : Int32) (br9 : Nat → Int32) (rn9 : Int32) (rf9 : Int32) (rx9 : Int32) (rp9 : Int32) (rb9 : Nat → Int32) (mth9 : Int32) (msz9 : Int32) (mwi9 : Int32) (mle9 : Int32) (mgr9 : Int32) (mpr9 : Int32) (mhp9 : Int32) (mtk9 : Int32) (mbn9 : Int32) (mmd9 : Int32) (mep9 : Int32) (mat9 : Int32) (mer9 : Int32) (mtx9 : Nat → Int32) (mki9 : Nat → Int32) (mln9 : Nat → Int32) (mdi9 : Nat → Int32) (mst9 : Nat → Int32) (mbi9 : Nat → Int32) (mou9 : Nat → Int32) (mco9 : Nat → Int32) (mct9 : Nat → Int32) (mfk9 : Nat → Int32) (mfl9 : Nat → Int32) (mfd9 : Nat → Int32) (mgo9 : Nat → Int32) (mma9 : Nat → Int32) (ov9 : Nat → Int64) (od9 : Nat → UInt64), v59 = v5 + 4 → Inv tn9 tb9 sw9 sl9 sg9 sp9 pn9 pch9 pk9 pl9 pd9 ps9 bn9 br9 rn9 rf9 rb9 msz9 mwi9 mle9 mgr9 mpr9 mhp9 mtk9 mbn9 mmd9 mep9 mtx9 mki9 mln9 mdi9 mst9 mbi9 mou9 → KB v59 tn9 tb9 sw9 sl9 sg9 sp9 ww9 wr9 wm9 wl9 wd9 pn9 pch9 pk9 pl9 pd9 ps9 bn9 br9 rn9 rf9 rx9 rp9 rb9 mth9 msz9 mwi9 mle9 mgr9 mpr9 mhp9 mtk9 mbn9 mmd9 mep9 mat9 mer9 mtx9 mki9 mln9 mdi9 mst9 mbi9 mou9 mco9 mct9 mfk9 mfl9 mfd9 mgo9 mma9 ov9 od9) : wpL_law_1735 v5 tn tb sw sl sg sp ww wr wm wl wd pn pch pk pl pd ps bn br rn rf rx rp rb msz mwi mle mgr mpr mhp mtk mbn mmd mep mat mer mtx mki mln mdi mst mbi mou mco mct mfk mfl mfd mgo mma ov od KB := by
  obtain ⟨hT, hSe, hPl, hB, hR⟩ := hI
  obtain ⟨r, hr, rfl, rfl, rfl, rfl⟩ := id hR
  unfold wpL_law_1735 wpX9_errorPosition wpX10_errorPosition
  exact ⟨fun _ => (hKB _ _ _ _ _ _ _ _ _ _ _ _ _ _ _ _ _ _ _ _ _ _ _ _ _ _ _ _ _ _ _ _ _ _ _ _ _ _ _ _ _ _ _ _ _ _ _ _ _ _ _ _ _ _ rfl ⟨hT, hSe, hPl, hB, hR⟩), fun q => absurd rfl q⟩
set_option maxHeartbeats 1000000 in
theorem cs_1748 {L : Nat} {xs : Nat → Int32} {v5 : Int32} {tn : Int32} {tb : Nat → Int32} {sw : Int32} {sl : Int32} {sg : Int32} {sp : Int32} {ww : Nat → Int32} {wr : Nat → Int32} {wm : Nat → Int32} {wl : Nat → Int32} {wd : Nat → Int32} {pn : Int32} {pch : Int32} {pk : Nat → Int32} {pl : Nat → Int32} {pd : Nat → Int32} {ps : Nat → Int32} {bn : Int32} {br : Nat → Int32} {rn : Int32} {rf : Int32} {rx : Int32} {rp : Int32} {rb : Nat → Int32} {mth : Int32} {msz : Int32} {mwi : Int32} {mle : Int32} {mgr : Int32} {mpr : Int32} {mhp : Int32} {mtk : Int32} {mbn : Int32} {mmd : Int32} {mep : Int32} {mat : Int32} {mer : Int32} {mtx : Nat → Int32} {mki : Nat → Int32} {mln : Nat → Int32} {mdi : Nat → Int32} {mst : Nat → Int32} {mbi : Nat → Int32} {mou : Nat → Int32} {mco : Nat → Int32} {mct : Nat → Int32} {mfk : Nat → Int32} {mfl : Nat → Int32} {mfd : Nat → Int32} {mgo : Nat → Int32} {mma : Nat → Int32} {ov : Nat → Int64} {od : Nat → UInt64} {KB : Int32 → Int32 → (Nat → Int32) → Int32 → Int32 → Int32 → Int32 → (Nat → Int32) → (Nat → Int32) → (Nat → Int32) → (Nat → Int32) → (Nat → Int32) → Int32 → Int32 → (Nat → Int32) → (Nat → Int32) → (Nat → Int32) → (Nat → Int32) → Int32 → (Nat → Int32) → Int32 → Int32 → Int32 → Int32 → (Nat → Int32) → Int32 → Int32 → Int32 → Int32 → Int32 → Int32 → Int32 → Int32 → Int32 → Int32 → Int32 → Int32 → Int32 → (Nat → Int32) → (Nat → Int32) → (Nat → Int32) → (Nat → Int32) → (Nat → Int32) → (Nat → Int32) → (Nat → Int32) → (Nat → Int32) → (Nat → Int32) → (Nat → Int32) → (Nat → Int32) → (Nat → Int32) → (Nat → Int32) → (Nat → Int32) → (Nat → Int64) → (Nat → UInt64) → Prop} (hI : Inv tn tb sw sl sg sp pn pch pk pl pd ps bn br rn rf rb msz mwi mle mgr mpr mhp mtk mbn mmd mep mtx mki mln mdi mst mbi mou) (hv1 : vp_in (v5 + 1) L) (hv2 : vp_in (v5 + 2) L) (hv3 : vp_in (v5 + 3) L) (hKB : ∀ (v59 : Int32) (tn9 : Int32) (tb9 : Nat → Int32) (sw9 : Int32) (sl9 : Int32) (sg9 : Int32) (sp9 : Int32) (ww9 : Nat → Int32) (wr9 : Nat → Int32) (wm9 : Nat → Int32) (wl9 : Nat → Int32) (wd9 : Nat → Int32) (pn9 : Int32) (pch9 : Int32) (pk9 : Nat → Int32) (pl9 : Nat → Int32) (pd9 : Nat → Int32) (ps9 : Nat → Int32) (bn9 : Int32) (br9 : Nat → Int32) (rn9 : Int32) (rf9 : Int32) (rx9 : Int32) (rp9 : Int32) (rb9 : Nat → Int32) (mth9 : Int32) (msz9 : Int32) (mwi9 : Int32) (mle9 : Int32) (mgr9 : Int32) (mpr9 : Int32) (mhp9 : Int32) (mtk9 : Int32) (mbn9 : Int32) (mmd9 : Int32) (mep9 : Int32) (mat9 : Int32) (mer9 : Int32) (mtx9 : Nat → Int32) (mki9 : Nat → Int32) (mln9 : Nat → Int32) (mdi9 : Nat → Int32) (mst9 : Nat → Int32) (mbi9 : Nat → Int32) (mou9 : Nat → Int32) (mco9 : Nat → Int32) (mct9 : Nat → Int32) (mfk9 : Nat → Int32) (mfl9 : Nat → Int32) (mfd9 : Nat → Int32) (mgo9 : Nat → Int32) (mma9 : Nat → Int32) (ov9 : Nat → Int64) (od9 : Nat → UInt64), v59 = v5 + 4 → Inv tn9 tb9 sw9 sl9 sg9 sp9 pn9 pch9 pk9 pl9 pd9 ps9 bn9 br9 rn9 rf9 rb9 msz9 mwi9 mle9 mgr9 mpr9 mhp9 mtk9 mbn9 mmd9 mep9 mtx9 mki9 mln9 mdi9 mst9 mbi9 mou9 → KB v59 tn9 tb9 sw9 sl9 sg9 sp9 ww9 wr9 wm9 wl9 wd9 pn9 pch9 pk9 pl9 pd9 ps9 bn9 br9 rn9 rf9 rx9 rp9 rb9 mth9 msz9 mwi9 mle9 mgr9 mpr9 mhp9 mtk9 mbn9 mmd9 mep9 mat9 mer9 mtx9 mki9 mln9 mdi9 mst9 mbi9 mou9 mco9 mct9 mfk9 mfl9 mfd9 mgo9 mma9 ov9 od9) : wpL_law_1748 v5 tn tb sw sl sg sp ww wr wm wl wd pn pch pk pl pd ps bn br rn rf rx rp rb msz mwi mle mgr mpr mhp mtk mbn mmd mep mat mer mtx mki mln mdi mst mbi mou mco mct mfk mfl mfd mgo mma ov od KB := by
  obtain ⟨hT, hSe, hPl, hB, hR⟩ := hI
  obtain ⟨r, hr, rfl, rfl, rfl, rfl⟩ := id hR
  unfold wpL_law_1748 wpX9_outputSize wpX10_outputSize
  exact ⟨fun _ => (hKB _ _ _ _ _ _ _ _ _ _ _ _ _ _ _ _ _ _ _ _ _ _ _ _ _ _ _ _ _ _ _ _ _ _ _ _ _ _ _ _ _ _ _ _ _ _ _ _ _ _ _ _ _ _ rfl ⟨hT, hSe, hPl, hB, hR⟩), fun q => absurd rfl q⟩

