/-! PAIRS 2: what is asked -/
theorem co_e1 (A : ST) (o : Option Nat) (z : Bool) : coA (x_s_pr (x_s_pn A o) z) = coA A := st_ext (by simp only [coA, xg_ny_pr, xg_ny_od, xg_ny_pn, xg_nt_pr, xg_nt_od, xg_nt_pn, xg_nc_pr, xg_nc_od, xg_nc_pn, xg_nj_pr, xg_nj_od, xg_nj_pn, xg_mu_pr, xg_mu_od, xg_mu_pn, xg_bu_pr, xg_bu_od, xg_bu_pn, xg_di_pr, xg_di_od, xg_di_pn, xg_pl_pr, xg_pl_od, xg_pl_pn, xg_th_pr, xg_th_od, xg_th_pn, xg_yr_pr, xg_yr_od, xg_yr_pn, xg_co_pr, xg_co_od, xg_co_pn, xg_wo_pr, xg_wo_od, xg_wo_pn, xg_jt_pr, xg_jt_od, xg_jt_pn, xg_sv_pr, xg_sv_od, xg_sv_pn, xg_ja_pr, xg_ja_od, xg_ja_pn, xg_jb_pr, xg_jb_od, xg_jb_pn, xg_js_pr, xg_js_od, xg_js_pn]) (by simp only [coA, xg_nt_pr, xg_nt_od, xg_nt_pn, xg_nc_pr, xg_nc_od, xg_nc_pn, xg_nj_pr, xg_nj_od, xg_nj_pn, xg_mu_pr, xg_mu_od, xg_mu_pn, xg_bu_pr, xg_bu_od, xg_bu_pn, xg_di_pr, xg_di_od, xg_di_pn, xg_pl_pr, xg_pl_od, xg_pl_pn, xg_th_pr, xg_th_od, xg_th_pn, xg_yr_pr, xg_yr_od, xg_yr_pn, xg_co_pr, xg_co_od, xg_co_pn, xg_wo_pr, xg_wo_od, xg_wo_pn, xg_jt_pr, xg_jt_od, xg_jt_pn, xg_sv_pr, xg_sv_od, xg_sv_pn, xg_ja_pr, xg_ja_od, xg_ja_pn, xg_jb_pr, xg_jb_od, xg_jb_pn, xg_js_pr, xg_js_od, xg_js_pn]) (by simp only [coA, xg_nc_pr, xg_nc_od, xg_nc_pn, xg_nt_pr, xg_nt_od, xg_nt_pn, xg_nj_pr, xg_nj_od, xg_nj_pn, xg_mu_pr, xg_mu_od, xg_mu_pn, xg_bu_pr, xg_bu_od, xg_bu_pn, xg_di_pr, xg_di_od, xg_di_pn, xg_pl_pr, xg_pl_od, xg_pl_pn, xg_th_pr, xg_th_od, xg_th_pn, xg_yr_pr, xg_yr_od, xg_yr_pn, xg_co_pr, xg_co_od, xg_co_pn, xg_wo_pr, xg_wo_od, xg_wo_pn, xg_jt_pr, xg_jt_od, xg_jt_pn, xg_sv_pr, xg_sv_od, xg_sv_pn, xg_ja_pr, xg_ja_od, xg_ja_pn, xg_jb_pr, xg_jb_od, xg_jb_pn, xg_js_pr, xg_js_od, xg_js_pn]) (by simp only [coA, xg_mu_pr, xg_mu_od, xg_mu_pn, xg_nt_pr, xg_nt_od, xg_nt_pn, xg_nc_pr, xg_nc_od, xg_nc_pn, xg_nj_pr, xg_nj_od, xg_nj_pn, xg_bu_pr, xg_bu_od, xg_bu_pn, xg_di_pr, xg_di_od, xg_di_pn, xg_pl_pr, xg_pl_od, xg_pl_pn, xg_th_pr, xg_th_od, xg_th_pn, xg_yr_pr, xg_yr_od, xg_yr_pn, xg_co_pr, xg_co_od, xg_co_pn, xg_wo_pr, xg_wo_od, xg_wo_pn, xg_jt_pr, xg_jt_od, xg_jt_pn, xg_sv_pr, xg_sv_od, xg_sv_pn, xg_ja_pr, xg_ja_od, xg_ja_pn, xg_jb_pr, xg_jb_od, xg_jb_pn, xg_js_pr, xg_js_od, xg_js_pn]) (by simp only [coA, xg_nj_pr, xg_nj_od, xg_nj_pn, xg_nt_pr, xg_nt_od, xg_nt_pn, xg_nc_pr, xg_nc_od, xg_nc_pn, xg_mu_pr, xg_mu_od, xg_mu_pn, xg_bu_pr, xg_bu_od, xg_bu_pn, xg_di_pr, xg_di_od, xg_di_pn, xg_pl_pr, xg_pl_od, xg_pl_pn, xg_th_pr, xg_th_od, xg_th_pn, xg_yr_pr, xg_yr_od, xg_yr_pn, xg_co_pr, xg_co_od, xg_co_pn, xg_wo_pr, xg_wo_od, xg_wo_pn, xg_jt_pr, xg_jt_od, xg_jt_pn, xg_sv_pr, xg_sv_od, xg_sv_pn, xg_ja_pr, xg_ja_od, xg_ja_pn, xg_jb_pr, xg_jb_od, xg_jb_pn, xg_js_pr, xg_js_od, xg_js_pn]) (by simp only [coA, xg_fa_pr, xg_fa_od, xg_fa_pn, xg_nt_pr, xg_nt_od, xg_nt_pn, xg_nc_pr, xg_nc_od, xg_nc_pn, xg_nj_pr, xg_nj_od, xg_nj_pn, xg_mu_pr, xg_mu_od, xg_mu_pn, xg_bu_pr, xg_bu_od, xg_bu_pn, xg_di_pr, xg_di_od, xg_di_pn, xg_pl_pr, xg_pl_od, xg_pl_pn, xg_th_pr, xg_th_od, xg_th_pn, xg_yr_pr, xg_yr_od, xg_yr_pn, xg_co_pr, xg_co_od, xg_co_pn, xg_wo_pr, xg_wo_od, xg_wo_pn, xg_jt_pr, xg_jt_od, xg_jt_pn, xg_sv_pr, xg_sv_od, xg_sv_pn, xg_ja_pr, xg_ja_od, xg_ja_pn, xg_jb_pr, xg_jb_od, xg_jb_pn, xg_js_pr, xg_js_od, xg_js_pn]) (by simp only [coA, xg_bu_pr, xg_bu_od, xg_bu_pn, xg_nt_pr, xg_nt_od, xg_nt_pn, xg_nc_pr, xg_nc_od, xg_nc_pn, xg_nj_pr, xg_nj_od, xg_nj_pn, xg_mu_pr, xg_mu_od, xg_mu_pn, xg_di_pr, xg_di_od, xg_di_pn, xg_pl_pr, xg_pl_od, xg_pl_pn, xg_th_pr, xg_th_od, xg_th_pn, xg_yr_pr, xg_yr_od, xg_yr_pn, xg_co_pr, xg_co_od, xg_co_pn, xg_wo_pr, xg_wo_od, xg_wo_pn, xg_jt_pr, xg_jt_od, xg_jt_pn, xg_sv_pr, xg_sv_od, xg_sv_pn, xg_ja_pr, xg_ja_od, xg_ja_pn, xg_jb_pr, xg_jb_od, xg_jb_pn, xg_js_pr, xg_js_od, xg_js_pn]) (by simp only [coA, xg_pl_pr, xg_pl_od, xg_pl_pn, xg_nt_pr, xg_nt_od, xg_nt_pn, xg_nc_pr, xg_nc_od, xg_nc_pn, xg_nj_pr, xg_nj_od, xg_nj_pn, xg_mu_pr, xg_mu_od, xg_mu_pn, xg_bu_pr, xg_bu_od, xg_bu_pn, xg_di_pr, xg_di_od, xg_di_pn, xg_th_pr, xg_th_od, xg_th_pn, xg_yr_pr, xg_yr_od, xg_yr_pn, xg_co_pr, xg_co_od, xg_co_pn, xg_wo_pr, xg_wo_od, xg_wo_pn, xg_jt_pr, xg_jt_od, xg_jt_pn, xg_sv_pr, xg_sv_od, xg_sv_pn, xg_ja_pr, xg_ja_od, xg_ja_pn, xg_jb_pr, xg_jb_od, xg_jb_pn, xg_js_pr, xg_js_od, xg_js_pn]) (by simp only [coA, xg_di_pr, xg_di_od, xg_di_pn, xg_nt_pr, xg_nt_od, xg_nt_pn, xg_nc_pr, xg_nc_od, xg_nc_pn, xg_nj_pr, xg_nj_od, xg_nj_pn, xg_mu_pr, xg_mu_od, xg_mu_pn, xg_bu_pr, xg_bu_od, xg_bu_pn, xg_pl_pr, xg_pl_od, xg_pl_pn, xg_th_pr, xg_th_od, xg_th_pn, xg_yr_pr, xg_yr_od, xg_yr_pn, xg_co_pr, xg_co_od, xg_co_pn, xg_wo_pr, xg_wo_od, xg_wo_pn, xg_jt_pr, xg_jt_od, xg_jt_pn, xg_sv_pr, xg_sv_od, xg_sv_pn, xg_ja_pr, xg_ja_od, xg_ja_pn, xg_jb_pr, xg_jb_od, xg_jb_pn, xg_js_pr, xg_js_od, xg_js_pn]) (by simp only [coA, xg_th_pr, xg_th_od, xg_th_pn, xg_nt_pr, xg_nt_od, xg_nt_pn, xg_nc_pr, xg_nc_od, xg_nc_pn, xg_nj_pr, xg_nj_od, xg_nj_pn, xg_mu_pr, xg_mu_od, xg_mu_pn, xg_bu_pr, xg_bu_od, xg_bu_pn, xg_di_pr, xg_di_od, xg_di_pn, xg_pl_pr, xg_pl_od, xg_pl_pn, xg_yr_pr, xg_yr_od, xg_yr_pn, xg_co_pr, xg_co_od, xg_co_pn, xg_wo_pr, xg_wo_od, xg_wo_pn, xg_jt_pr, xg_jt_od, xg_jt_pn, xg_sv_pr, xg_sv_od, xg_sv_pn, xg_ja_pr, xg_ja_od, xg_ja_pn, xg_jb_pr, xg_jb_od, xg_jb_pn, xg_js_pr, xg_js_od, xg_js_pn]) (by simp only [coA, xg_yr_pr, xg_yr_od, xg_yr_pn, xg_nt_pr, xg_nt_od, xg_nt_pn, xg_nc_pr, xg_nc_od, xg_nc_pn, xg_nj_pr, xg_nj_od, xg_nj_pn, xg_mu_pr, xg_mu_od, xg_mu_pn, xg_bu_pr, xg_bu_od, xg_bu_pn, xg_di_pr, xg_di_od, xg_di_pn, xg_pl_pr, xg_pl_od, xg_pl_pn, xg_th_pr, xg_th_od, xg_th_pn, xg_co_pr, xg_co_od, xg_co_pn, xg_wo_pr, xg_wo_od, xg_wo_pn, xg_jt_pr, xg_jt_od, xg_jt_pn, xg_sv_pr, xg_sv_od, xg_sv_pn, xg_ja_pr, xg_ja_od, xg_ja_pn, xg_jb_pr, xg_jb_od, xg_jb_pn, xg_js_pr, xg_js_od, xg_js_pn]) (by simp only [coA, xg_co_pr, xg_co_od, xg_co_pn, xg_nt_pr, xg_nt_od, xg_nt_pn, xg_nc_pr, xg_nc_od, xg_nc_pn, xg_nj_pr, xg_nj_od, xg_nj_pn, xg_mu_pr, xg_mu_od, xg_mu_pn, xg_bu_pr, xg_bu_od, xg_bu_pn, xg_di_pr, xg_di_od, xg_di_pn, xg_pl_pr, xg_pl_od, xg_pl_pn, xg_th_pr, xg_th_od, xg_th_pn, xg_yr_pr, xg_yr_od, xg_yr_pn, xg_wo_pr, xg_wo_od, xg_wo_pn, xg_jt_pr, xg_jt_od, xg_jt_pn, xg_sv_pr, xg_sv_od, xg_sv_pn, xg_ja_pr, xg_ja_od, xg_ja_pn, xg_jb_pr, xg_jb_od, xg_jb_pn, xg_js_pr, xg_js_od, xg_js_pn]) (by simp only [coA, xg_wo_pr, xg_wo_od, xg_wo_pn, xg_nt_pr, xg_nt_od, xg_nt_pn, xg_nc_pr, xg_nc_od, xg_nc_pn, xg_nj_pr, xg_nj_od, xg_nj_pn, xg_mu_pr, xg_mu_od, xg_mu_pn, xg_bu_pr, xg_bu_od, xg_bu_pn, xg_di_pr, xg_di_od, xg_di_pn, xg_pl_pr, xg_pl_od, xg_pl_pn, xg_th_pr, xg_th_od, xg_th_pn, xg_yr_pr, xg_yr_od, xg_yr_pn, xg_co_pr, xg_co_od, xg_co_pn, xg_jt_pr, xg_jt_od, xg_jt_pn, xg_sv_pr, xg_sv_od, xg_sv_pn, xg_ja_pr, xg_ja_od, xg_ja_pn, xg_jb_pr, xg_jb_od, xg_jb_pn, xg_js_pr, xg_js_od, xg_js_pn]) (by simp only [coA, xg_jt_pr, xg_jt_od, xg_jt_pn, xg_nt_pr, xg_nt_od, xg_nt_pn, xg_nc_pr, xg_nc_od, xg_nc_pn, xg_nj_pr, xg_nj_od, xg_nj_pn, xg_mu_pr, xg_mu_od, xg_mu_pn, xg_bu_pr, xg_bu_od, xg_bu_pn, xg_di_pr, xg_di_od, xg_di_pn, xg_pl_pr, xg_pl_od, xg_pl_pn, xg_th_pr, xg_th_od, xg_th_pn, xg_yr_pr, xg_yr_od, xg_yr_pn, xg_co_pr, xg_co_od, xg_co_pn, xg_wo_pr, xg_wo_od, xg_wo_pn, xg_sv_pr, xg_sv_od, xg_sv_pn, xg_ja_pr, xg_ja_od, xg_ja_pn, xg_jb_pr, xg_jb_od, xg_jb_pn, xg_js_pr, xg_js_od, xg_js_pn]) (by simp only [coA, xg_sv_pr, xg_sv_od, xg_sv_pn, xg_nt_pr, xg_nt_od, xg_nt_pn, xg_nc_pr, xg_nc_od, xg_nc_pn, xg_nj_pr, xg_nj_od, xg_nj_pn, xg_mu_pr, xg_mu_od, xg_mu_pn, xg_bu_pr, xg_bu_od, xg_bu_pn, xg_di_pr, xg_di_od, xg_di_pn, xg_pl_pr, xg_pl_od, xg_pl_pn, xg_th_pr, xg_th_od, xg_th_pn, xg_yr_pr, xg_yr_od, xg_yr_pn, xg_co_pr, xg_co_od, xg_co_pn, xg_wo_pr, xg_wo_od, xg_wo_pn, xg_jt_pr, xg_jt_od, xg_jt_pn, xg_ja_pr, xg_ja_od, xg_ja_pn, xg_jb_pr, xg_jb_od, xg_jb_pn, xg_js_pr, xg_js_od, xg_js_pn]) (by simp only [coA, xg_ja_pr, xg_ja_od, xg_ja_pn, xg_nt_pr, xg_nt_od, xg_nt_pn, xg_nc_pr, xg_nc_od, xg_nc_pn, xg_nj_pr, xg_nj_od, xg_nj_pn, xg_mu_pr, xg_mu_od, xg_mu_pn, xg_bu_pr, xg_bu_od, xg_bu_pn, xg_di_pr, xg_di_od, xg_di_pn, xg_pl_pr, xg_pl_od, xg_pl_pn, xg_th_pr, xg_th_od, xg_th_pn, xg_yr_pr, xg_yr_od, xg_yr_pn, xg_co_pr, xg_co_od, xg_co_pn, xg_wo_pr, xg_wo_od, xg_wo_pn, xg_jt_pr, xg_jt_od, xg_jt_pn, xg_sv_pr, xg_sv_od, xg_sv_pn, xg_jb_pr, xg_jb_od, xg_jb_pn, xg_js_pr, xg_js_od, xg_js_pn]) (by simp only [coA, xg_jb_pr, xg_jb_od, xg_jb_pn, xg_nt_pr, xg_nt_od, xg_nt_pn, xg_nc_pr, xg_nc_od, xg_nc_pn, xg_nj_pr, xg_nj_od, xg_nj_pn, xg_mu_pr, xg_mu_od, xg_mu_pn, xg_bu_pr, xg_bu_od, xg_bu_pn, xg_di_pr, xg_di_od, xg_di_pn, xg_pl_pr, xg_pl_od, xg_pl_pn, xg_th_pr, xg_th_od, xg_th_pn, xg_yr_pr, xg_yr_od, xg_yr_pn, xg_co_pr, xg_co_od, xg_co_pn, xg_wo_pr, xg_wo_od, xg_wo_pn, xg_jt_pr, xg_jt_od, xg_jt_pn, xg_sv_pr, xg_sv_od, xg_sv_pn, xg_ja_pr, xg_ja_od, xg_ja_pn, xg_js_pr, xg_js_od, xg_js_pn]) (by simp only [coA, xg_js_pr, xg_js_od, xg_js_pn, xg_nt_pr, xg_nt_od, xg_nt_pn, xg_nc_pr, xg_nc_od, xg_nc_pn, xg_nj_pr, xg_nj_od, xg_nj_pn, xg_mu_pr, xg_mu_od, xg_mu_pn, xg_bu_pr, xg_bu_od, xg_bu_pn, xg_di_pr, xg_di_od, xg_di_pn, xg_pl_pr, xg_pl_od, xg_pl_pn, xg_th_pr, xg_th_od, xg_th_pn, xg_yr_pr, xg_yr_od, xg_yr_pn, xg_co_pr, xg_co_od, xg_co_pn, xg_wo_pr, xg_wo_od, xg_wo_pn, xg_jt_pr, xg_jt_od, xg_jt_pn, xg_sv_pr, xg_sv_od, xg_sv_pn, xg_ja_pr, xg_ja_od, xg_ja_pn, xg_jb_pr, xg_jb_od, xg_jb_pn]) (by simp only [coA, xg_pn_pr, xg_pn_od, xg_pn_pn, xg_nt_pr, xg_nt_od, xg_nt_pn, xg_nc_pr, xg_nc_od, xg_nc_pn, xg_nj_pr, xg_nj_od, xg_nj_pn, xg_mu_pr, xg_mu_od, xg_mu_pn, xg_bu_pr, xg_bu_od, xg_bu_pn, xg_di_pr, xg_di_od, xg_di_pn, xg_pl_pr, xg_pl_od, xg_pl_pn, xg_th_pr, xg_th_od, xg_th_pn, xg_yr_pr, xg_yr_od, xg_yr_pn, xg_co_pr, xg_co_od, xg_co_pn, xg_wo_pr, xg_wo_od, xg_wo_pn, xg_jt_pr, xg_jt_od, xg_jt_pn, xg_sv_pr, xg_sv_od, xg_sv_pn, xg_ja_pr, xg_ja_od, xg_ja_pn, xg_jb_pr, xg_jb_od, xg_jb_pn, xg_js_pr, xg_js_od, xg_js_pn]) (by simp only [coA, xg_od_pr, xg_od_od, xg_od_pn, xg_nt_pr, xg_nt_od, xg_nt_pn, xg_nc_pr, xg_nc_od, xg_nc_pn, xg_nj_pr, xg_nj_od, xg_nj_pn, xg_mu_pr, xg_mu_od, xg_mu_pn, xg_bu_pr, xg_bu_od, xg_bu_pn, xg_di_pr, xg_di_od, xg_di_pn, xg_pl_pr, xg_pl_od, xg_pl_pn, xg_th_pr, xg_th_od, xg_th_pn, xg_yr_pr, xg_yr_od, xg_yr_pn, xg_co_pr, xg_co_od, xg_co_pn, xg_wo_pr, xg_wo_od, xg_wo_pn, xg_jt_pr, xg_jt_od, xg_jt_pn, xg_sv_pr, xg_sv_od, xg_sv_pn, xg_ja_pr, xg_ja_od, xg_ja_pn, xg_jb_pr, xg_jb_od, xg_jb_pn, xg_js_pr, xg_js_od, xg_js_pn]) (by simp only [coA, xg_pr_pr, xg_pr_od, xg_pr_pn, xg_nt_pr, xg_nt_od, xg_nt_pn, xg_nc_pr, xg_nc_od, xg_nc_pn, xg_nj_pr, xg_nj_od, xg_nj_pn, xg_mu_pr, xg_mu_od, xg_mu_pn, xg_bu_pr, xg_bu_od, xg_bu_pn, xg_di_pr, xg_di_od, xg_di_pn, xg_pl_pr, xg_pl_od, xg_pl_pn, xg_th_pr, xg_th_od, xg_th_pn, xg_yr_pr, xg_yr_od, xg_yr_pn, xg_co_pr, xg_co_od, xg_co_pn, xg_wo_pr, xg_wo_od, xg_wo_pn, xg_jt_pr, xg_jt_od, xg_jt_pn, xg_sv_pr, xg_sv_od, xg_sv_pn, xg_ja_pr, xg_ja_od, xg_ja_pn, xg_jb_pr, xg_jb_od, xg_jb_pn, xg_js_pr, xg_js_od, xg_js_pn])
theorem co_e2 (A : ST) (o : Option Nat) : coA (x_s_pn A o) = coA A := st_ext (by simp only [coA, xg_ny_pr, xg_ny_od, xg_ny_pn, xg_nt_pr, xg_nt_od, xg_nt_pn, xg_nc_pr, xg_nc_od, xg_nc_pn, xg_nj_pr, xg_nj_od, xg_nj_pn, xg_mu_pr, xg_mu_od, xg_mu_pn, xg_bu_pr, xg_bu_od, xg_bu_pn, xg_di_pr, xg_di_od, xg_di_pn, xg_pl_pr, xg_pl_od, xg_pl_pn, xg_th_pr, xg_th_od, xg_th_pn, xg_yr_pr, xg_yr_od, xg_yr_pn, xg_co_pr, xg_co_od, xg_co_pn, xg_wo_pr, xg_wo_od, xg_wo_pn, xg_jt_pr, xg_jt_od, xg_jt_pn, xg_sv_pr, xg_sv_od, xg_sv_pn, xg_ja_pr, xg_ja_od, xg_ja_pn, xg_jb_pr, xg_jb_od, xg_jb_pn, xg_js_pr, xg_js_od, xg_js_pn]) (by simp only [coA, xg_nt_pr, xg_nt_od, xg_nt_pn, xg_nc_pr, xg_nc_od, xg_nc_pn, xg_nj_pr, xg_nj_od, xg_nj_pn, xg_mu_pr, xg_mu_od, xg_mu_pn, xg_bu_pr, xg_bu_od, xg_bu_pn, xg_di_pr, xg_di_od, xg_di_pn, xg_pl_pr, xg_pl_od, xg_pl_pn, xg_th_pr, xg_th_od, xg_th_pn, xg_yr_pr, xg_yr_od, xg_yr_pn, xg_co_pr, xg_co_od, xg_co_pn, xg_wo_pr, xg_wo_od, xg_wo_pn, xg_jt_pr, xg_jt_od, xg_jt_pn, xg_sv_pr, xg_sv_od, xg_sv_pn, xg_ja_pr, xg_ja_od, xg_ja_pn, xg_jb_pr, xg_jb_od, xg_jb_pn, xg_js_pr, xg_js_od, xg_js_pn]) (by simp only [coA, xg_nc_pr, xg_nc_od, xg_nc_pn, xg_nt_pr, xg_nt_od, xg_nt_pn, xg_nj_pr, xg_nj_od, xg_nj_pn, xg_mu_pr, xg_mu_od, xg_mu_pn, xg_bu_pr, xg_bu_od, xg_bu_pn, xg_di_pr, xg_di_od, xg_di_pn, xg_pl_pr, xg_pl_od, xg_pl_pn, xg_th_pr, xg_th_od, xg_th_pn, xg_yr_pr, xg_yr_od, xg_yr_pn, xg_co_pr, xg_co_od, xg_co_pn, xg_wo_pr, xg_wo_od, xg_wo_pn, xg_jt_pr, xg_jt_od, xg_jt_pn, xg_sv_pr, xg_sv_od, xg_sv_pn, xg_ja_pr, xg_ja_od, xg_ja_pn, xg_jb_pr, xg_jb_od, xg_jb_pn, xg_js_pr, xg_js_od, xg_js_pn]) (by simp only [coA, xg_mu_pr, xg_mu_od, xg_mu_pn, xg_nt_pr, xg_nt_od, xg_nt_pn, xg_nc_pr, xg_nc_od, xg_nc_pn, xg_nj_pr, xg_nj_od, xg_nj_pn, xg_bu_pr, xg_bu_od, xg_bu_pn, xg_di_pr, xg_di_od, xg_di_pn, xg_pl_pr, xg_pl_od, xg_pl_pn, xg_th_pr, xg_th_od, xg_th_pn, xg_yr_pr, xg_yr_od, xg_yr_pn, xg_co_pr, xg_co_od, xg_co_pn, xg_wo_pr, xg_wo_od, xg_wo_pn, xg_jt_pr, xg_jt_od, xg_jt_pn, xg_sv_pr, xg_sv_od, xg_sv_pn, xg_ja_pr, xg_ja_od, xg_ja_pn, xg_jb_pr, xg_jb_od, xg_jb_pn, xg_js_pr, xg_js_od, xg_js_pn]) (by simp only [coA, xg_nj_pr, xg_nj_od, xg_nj_pn, xg_nt_pr, xg_nt_od, xg_nt_pn, xg_nc_pr, xg_nc_od, xg_nc_pn, xg_mu_pr, xg_mu_od, xg_mu_pn, xg_bu_pr, xg_bu_od, xg_bu_pn, xg_di_pr, xg_di_od, xg_di_pn, xg_pl_pr, xg_pl_od, xg_pl_pn, xg_th_pr, xg_th_od, xg_th_pn, xg_yr_pr, xg_yr_od, xg_yr_pn, xg_co_pr, xg_co_od, xg_co_pn, xg_wo_pr, xg_wo_od, xg_wo_pn, xg_jt_pr, xg_jt_od, xg_jt_pn, xg_sv_pr, xg_sv_od, xg_sv_pn, xg_ja_pr, xg_ja_od, xg_ja_pn, xg_jb_pr, xg_jb_od, xg_jb_pn, xg_js_pr, xg_js_od, xg_js_pn]) (by simp only [coA, xg_fa_pr, xg_fa_od, xg_fa_pn, xg_nt_pr, xg_nt_od, xg_nt_pn, xg_nc_pr, xg_nc_od, xg_nc_pn, xg_nj_pr, xg_nj_od, xg_nj_pn, xg_mu_pr, xg_mu_od, xg_mu_pn, xg_bu_pr, xg_bu_od, xg_bu_pn, xg_di_pr, xg_di_od, xg_di_pn, xg_pl_pr, xg_pl_od, xg_pl_pn, xg_th_pr, xg_th_od, xg_th_pn, xg_yr_pr, xg_yr_od, xg_yr_pn, xg_co_pr, xg_co_od, xg_co_pn, xg_wo_pr, xg_wo_od, xg_wo_pn, xg_jt_pr, xg_jt_od, xg_jt_pn, xg_sv_pr, xg_sv_od, xg_sv_pn, xg_ja_pr, xg_ja_od, xg_ja_pn, xg_jb_pr, xg_jb_od, xg_jb_pn, xg_js_pr, xg_js_od, xg_js_pn]) (by simp only [coA, xg_bu_pr, xg_bu_od, xg_bu_pn, xg_nt_pr, xg_nt_od, xg_nt_pn, xg_nc_pr, xg_nc_od, xg_nc_pn, xg_nj_pr, xg_nj_od, xg_nj_pn, xg_mu_pr, xg_mu_od, xg_mu_pn, xg_di_pr, xg_di_od, xg_di_pn, xg_pl_pr, xg_pl_od, xg_pl_pn, xg_th_pr, xg_th_od, xg_th_pn, xg_yr_pr, xg_yr_od, xg_yr_pn, xg_co_pr, xg_co_od, xg_co_pn, xg_wo_pr, xg_wo_od, xg_wo_pn, xg_jt_pr, xg_jt_od, xg_jt_pn, xg_sv_pr, xg_sv_od, xg_sv_pn, xg_ja_pr, xg_ja_od, xg_ja_pn, xg_jb_pr, xg_jb_od, xg_jb_pn, xg_js_pr, xg_js_od, xg_js_pn]) (by simp only [coA, xg_pl_pr, xg_pl_od, xg_pl_pn, xg_nt_pr, xg_nt_od, xg_nt_pn, xg_nc_pr, xg_nc_od, xg_nc_pn, xg_nj_pr, xg_nj_od, xg_nj_pn, xg_mu_pr, xg_mu_od, xg_mu_pn, xg_bu_pr, xg_bu_od, xg_bu_pn, xg_di_pr, xg_di_od, xg_di_pn, xg_th_pr, xg_th_od, xg_th_pn, xg_yr_pr, xg_yr_od, xg_yr_pn, xg_co_pr, xg_co_od, xg_co_pn, xg_wo_pr, xg_wo_od, xg_wo_pn, xg_jt_pr, xg_jt_od, xg_jt_pn, xg_sv_pr, xg_sv_od, xg_sv_pn, xg_ja_pr, xg_ja_od, xg_ja_pn, xg_jb_pr, xg_jb_od, xg_jb_pn, xg_js_pr, xg_js_od, xg_js_pn]) (by simp only [coA, xg_di_pr, xg_di_od, xg_di_pn, xg_nt_pr, xg_nt_od, xg_nt_pn, xg_nc_pr, xg_nc_od, xg_nc_pn, xg_nj_pr, xg_nj_od, xg_nj_pn, xg_mu_pr, xg_mu_od, xg_mu_pn, xg_bu_pr, xg_bu_od, xg_bu_pn, xg_pl_pr, xg_pl_od, xg_pl_pn, xg_th_pr, xg_th_od, xg_th_pn, xg_yr_pr, xg_yr_od, xg_yr_pn, xg_co_pr, xg_co_od, xg_co_pn, xg_wo_pr, xg_wo_od, xg_wo_pn, xg_jt_pr, xg_jt_od, xg_jt_pn, xg_sv_pr, xg_sv_od, xg_sv_pn, xg_ja_pr, xg_ja_od, xg_ja_pn, xg_jb_pr, xg_jb_od, xg_jb_pn, xg_js_pr, xg_js_od, xg_js_pn]) (by simp only [coA, xg_th_pr, xg_th_od, xg_th_pn, xg_nt_pr, xg_nt_od, xg_nt_pn, xg_nc_pr, xg_nc_od, xg_nc_pn, xg_nj_pr, xg_nj_od, xg_nj_pn, xg_mu_pr, xg_mu_od, xg_mu_pn, xg_bu_pr, xg_bu_od, xg_bu_pn, xg_di_pr, xg_di_od, xg_di_pn, xg_pl_pr, xg_pl_od, xg_pl_pn, xg_yr_pr, xg_yr_od, xg_yr_pn, xg_co_pr, xg_co_od, xg_co_pn, xg_wo_pr, xg_wo_od, xg_wo_pn, xg_jt_pr, xg_jt_od, xg_jt_pn, xg_sv_pr, xg_sv_od, xg_sv_pn, xg_ja_pr, xg_ja_od, xg_ja_pn, xg_jb_pr, xg_jb_od, xg_jb_pn, xg_js_pr, xg_js_od, xg_js_pn]) (by simp only [coA, xg_yr_pr, xg_yr_od, xg_yr_pn, xg_nt_pr, xg_nt_od, xg_nt_pn, xg_nc_pr, xg_nc_od, xg_nc_pn, xg_nj_pr, xg_nj_od, xg_nj_pn, xg_mu_pr, xg_mu_od, xg_mu_pn, xg_bu_pr, xg_bu_od, xg_bu_pn, xg_di_pr, xg_di_od, xg_di_pn, xg_pl_pr, xg_pl_od, xg_pl_pn, xg_th_pr, xg_th_od, xg_th_pn, xg_co_pr, xg_co_od, xg_co_pn, xg_wo_pr, xg_wo_od, xg_wo_pn, xg_jt_pr, xg_jt_od, xg_jt_pn, xg_sv_pr, xg_sv_od, xg_sv_pn, xg_ja_pr, xg_ja_od, xg_ja_pn, xg_jb_pr, xg_jb_od, xg_jb_pn, xg_js_pr, xg_js_od, xg_js_pn]) (by simp only [coA, xg_co_pr, xg_co_od, xg_co_pn, xg_nt_pr, xg_nt_od, xg_nt_pn, xg_nc_pr, xg_nc_od, xg_nc_pn, xg_nj_pr, xg_nj_od, xg_nj_pn, xg_mu_pr, xg_mu_od, xg_mu_pn, xg_bu_pr, xg_bu_od, xg_bu_pn, xg_di_pr, xg_di_od, xg_di_pn, xg_pl_pr, xg_pl_od, xg_pl_pn, xg_th_pr, xg_th_od, xg_th_pn, xg_yr_pr, xg_yr_od, xg_yr_pn, xg_wo_pr, xg_wo_od, xg_wo_pn, xg_jt_pr, xg_jt_od, xg_jt_pn, xg_sv_pr, xg_sv_od, xg_sv_pn, xg_ja_pr, xg_ja_od, xg_ja_pn, xg_jb_pr, xg_jb_od, xg_jb_pn, xg_js_pr, xg_js_od, xg_js_pn]) (by simp only [coA, xg_wo_pr, xg_wo_od, xg_wo_pn, xg_nt_pr, xg_nt_od, xg_nt_pn, xg_nc_pr, xg_nc_od, xg_nc_pn, xg_nj_pr, xg_nj_od, xg_nj_pn, xg_mu_pr, xg_mu_od, xg_mu_pn, xg_bu_pr, xg_bu_od, xg_bu_pn, xg_di_pr, xg_di_od, xg_di_pn, xg_pl_pr, xg_pl_od, xg_pl_pn, xg_th_pr, xg_th_od, xg_th_pn, xg_yr_pr, xg_yr_od, xg_yr_pn, xg_co_pr, xg_co_od, xg_co_pn, xg_jt_pr, xg_jt_od, xg_jt_pn, xg_sv_pr, xg_sv_od, xg_sv_pn, xg_ja_pr, xg_ja_od, xg_ja_pn, xg_jb_pr, xg_jb_od, xg_jb_pn, xg_js_pr, xg_js_od, xg_js_pn]) (by simp only [coA, xg_jt_pr, xg_jt_od, xg_jt_pn, xg_nt_pr, xg_nt_od, xg_nt_pn, xg_nc_pr, xg_nc_od, xg_nc_pn, xg_nj_pr, xg_nj_od, xg_nj_pn, xg_mu_pr, xg_mu_od, xg_mu_pn, xg_bu_pr, xg_bu_od, xg_bu_pn, xg_di_pr, xg_di_od, xg_di_pn, xg_pl_pr, xg_pl_od, xg_pl_pn, xg_th_pr, xg_th_od, xg_th_pn, xg_yr_pr, xg_yr_od, xg_yr_pn, xg_co_pr, xg_co_od, xg_co_pn, xg_wo_pr, xg_wo_od, xg_wo_pn, xg_sv_pr, xg_sv_od, xg_sv_pn, xg_ja_pr, xg_ja_od, xg_ja_pn, xg_jb_pr, xg_jb_od, xg_jb_pn, xg_js_pr, xg_js_od, xg_js_pn]) (by simp only [coA, xg_sv_pr, xg_sv_od, xg_sv_pn, xg_nt_pr, xg_nt_od, xg_nt_pn, xg_nc_pr, xg_nc_od, xg_nc_pn, xg_nj_pr, xg_nj_od, xg_nj_pn, xg_mu_pr, xg_mu_od, xg_mu_pn, xg_bu_pr, xg_bu_od, xg_bu_pn, xg_di_pr, xg_di_od, xg_di_pn, xg_pl_pr, xg_pl_od, xg_pl_pn, xg_th_pr, xg_th_od, xg_th_pn, xg_yr_pr, xg_yr_od, xg_yr_pn, xg_co_pr, xg_co_od, xg_co_pn, xg_wo_pr, xg_wo_od, xg_wo_pn, xg_jt_pr, xg_jt_od, xg_jt_pn, xg_ja_pr, xg_ja_od, xg_ja_pn, xg_jb_pr, xg_jb_od, xg_jb_pn, xg_js_pr, xg_js_od, xg_js_pn]) (by simp only [coA, xg_ja_pr, xg_ja_od, xg_ja_pn, xg_nt_pr, xg_nt_od, xg_nt_pn, xg_nc_pr, xg_nc_od, xg_nc_pn, xg_nj_pr, xg_nj_od, xg_nj_pn, xg_mu_pr, xg_mu_od, xg_mu_pn, xg_bu_pr, xg_bu_od, xg_bu_pn, xg_di_pr, xg_di_od, xg_di_pn, xg_pl_pr, xg_pl_od, xg_pl_pn, xg_th_pr, xg_th_od, xg_th_pn, xg_yr_pr, xg_yr_od, xg_yr_pn, xg_co_pr, xg_co_od, xg_co_pn, xg_wo_pr, xg_wo_od, xg_wo_pn, xg_jt_pr, xg_jt_od, xg_jt_pn, xg_sv_pr, xg_sv_od, xg_sv_pn, xg_jb_pr, xg_jb_od, xg_jb_pn, xg_js_pr, xg_js_od, xg_js_pn]) (by simp only [coA, xg_jb_pr, xg_jb_od, xg_jb_pn, xg_nt_pr, xg_nt_od, xg_nt_pn, xg_nc_pr, xg_nc_od, xg_nc_pn, xg_nj_pr, xg_nj_od, xg_nj_pn, xg_mu_pr, xg_mu_od, xg_mu_pn, xg_bu_pr, xg_bu_od, xg_bu_pn, xg_di_pr, xg_di_od, xg_di_pn, xg_pl_pr, xg_pl_od, xg_pl_pn, xg_th_pr, xg_th_od, xg_th_pn, xg_yr_pr, xg_yr_od, xg_yr_pn, xg_co_pr, xg_co_od, xg_co_pn, xg_wo_pr, xg_wo_od, xg_wo_pn, xg_jt_pr, xg_jt_od, xg_jt_pn, xg_sv_pr, xg_sv_od, xg_sv_pn, xg_ja_pr, xg_ja_od, xg_ja_pn, xg_js_pr, xg_js_od, xg_js_pn]) (by simp only [coA, xg_js_pr, xg_js_od, xg_js_pn, xg_nt_pr, xg_nt_od, xg_nt_pn, xg_nc_pr, xg_nc_od, xg_nc_pn, xg_nj_pr, xg_nj_od, xg_nj_pn, xg_mu_pr, xg_mu_od, xg_mu_pn, xg_bu_pr, xg_bu_od, xg_bu_pn, xg_di_pr, xg_di_od, xg_di_pn, xg_pl_pr, xg_pl_od, xg_pl_pn, xg_th_pr, xg_th_od, xg_th_pn, xg_yr_pr, xg_yr_od, xg_yr_pn, xg_co_pr, xg_co_od, xg_co_pn, xg_wo_pr, xg_wo_od, xg_wo_pn, xg_jt_pr, xg_jt_od, xg_jt_pn, xg_sv_pr, xg_sv_od, xg_sv_pn, xg_ja_pr, xg_ja_od, xg_ja_pn, xg_jb_pr, xg_jb_od, xg_jb_pn]) (by simp only [coA, xg_pn_pr, xg_pn_od, xg_pn_pn, xg_nt_pr, xg_nt_od, xg_nt_pn, xg_nc_pr, xg_nc_od, xg_nc_pn, xg_nj_pr, xg_nj_od, xg_nj_pn, xg_mu_pr, xg_mu_od, xg_mu_pn, xg_bu_pr, xg_bu_od, xg_bu_pn, xg_di_pr, xg_di_od, xg_di_pn, xg_pl_pr, xg_pl_od, xg_pl_pn, xg_th_pr, xg_th_od, xg_th_pn, xg_yr_pr, xg_yr_od, xg_yr_pn, xg_co_pr, xg_co_od, xg_co_pn, xg_wo_pr, xg_wo_od, xg_wo_pn, xg_jt_pr, xg_jt_od, xg_jt_pn, xg_sv_pr, xg_sv_od, xg_sv_pn, xg_ja_pr, xg_ja_od, xg_ja_pn, xg_jb_pr, xg_jb_od, xg_jb_pn, xg_js_pr, xg_js_od, xg_js_pn]) (by simp only [coA, xg_od_pr, xg_od_od, xg_od_pn, xg_nt_pr, xg_nt_od, xg_nt_pn, xg_nc_pr, xg_nc_od, xg_nc_pn, xg_nj_pr, xg_nj_od, xg_nj_pn, xg_mu_pr, xg_mu_od, xg_mu_pn, xg_bu_pr, xg_bu_od, xg_bu_pn, xg_di_pr, xg_di_od, xg_di_pn, xg_pl_pr, xg_pl_od, xg_pl_pn, xg_th_pr, xg_th_od, xg_th_pn, xg_yr_pr, xg_yr_od, xg_yr_pn, xg_co_pr, xg_co_od, xg_co_pn, xg_wo_pr, xg_wo_od, xg_wo_pn, xg_jt_pr, xg_jt_od, xg_jt_pn, xg_sv_pr, xg_sv_od, xg_sv_pn, xg_ja_pr, xg_ja_od, xg_ja_pn, xg_jb_pr, xg_jb_od, xg_jb_pn, xg_js_pr, xg_js_od, xg_js_pn]) (by simp only [coA, xg_pr_pr, xg_pr_od, xg_pr_pn, xg_nt_pr, xg_nt_od, xg_nt_pn, xg_nc_pr, xg_nc_od, xg_nc_pn, xg_nj_pr, xg_nj_od, xg_nj_pn, xg_mu_pr, xg_mu_od, xg_mu_pn, xg_bu_pr, xg_bu_od, xg_bu_pn, xg_di_pr, xg_di_od, xg_di_pn, xg_pl_pr, xg_pl_od, xg_pl_pn, xg_th_pr, xg_th_od, xg_th_pn, xg_yr_pr, xg_yr_od, xg_yr_pn, xg_co_pr, xg_co_od, xg_co_pn, xg_wo_pr, xg_wo_od, xg_wo_pn, xg_jt_pr, xg_jt_od, xg_jt_pn, xg_sv_pr, xg_sv_od, xg_sv_pn, xg_ja_pr, xg_ja_od, xg_ja_pn, xg_jb_pr, xg_jb_od, xg_jb_pn, xg_js_pr, xg_js_od, xg_js_pn])
theorem co_e3 (A : ST) (o : Nat) : coA (x_s_od A o) = coA A := st_ext (by simp only [coA, xg_ny_pr, xg_ny_od, xg_ny_pn, xg_nt_pr, xg_nt_od, xg_nt_pn, xg_nc_pr, xg_nc_od, xg_nc_pn, xg_nj_pr, xg_nj_od, xg_nj_pn, xg_mu_pr, xg_mu_od, xg_mu_pn, xg_bu_pr, xg_bu_od, xg_bu_pn, xg_di_pr, xg_di_od, xg_di_pn, xg_pl_pr, xg_pl_od, xg_pl_pn, xg_th_pr, xg_th_od, xg_th_pn, xg_yr_pr, xg_yr_od, xg_yr_pn, xg_co_pr, xg_co_od, xg_co_pn, xg_wo_pr, xg_wo_od, xg_wo_pn, xg_jt_pr, xg_jt_od, xg_jt_pn, xg_sv_pr, xg_sv_od, xg_sv_pn, xg_ja_pr, xg_ja_od, xg_ja_pn, xg_jb_pr, xg_jb_od, xg_jb_pn, xg_js_pr, xg_js_od, xg_js_pn]) (by simp only [coA, xg_nt_pr, xg_nt_od, xg_nt_pn, xg_nc_pr, xg_nc_od, xg_nc_pn, xg_nj_pr, xg_nj_od, xg_nj_pn, xg_mu_pr, xg_mu_od, xg_mu_pn, xg_bu_pr, xg_bu_od, xg_bu_pn, xg_di_pr, xg_di_od, xg_di_pn, xg_pl_pr, xg_pl_od, xg_pl_pn, xg_th_pr, xg_th_od, xg_th_pn, xg_yr_pr, xg_yr_od, xg_yr_pn, xg_co_pr, xg_co_od, xg_co_pn, xg_wo_pr, xg_wo_od, xg_wo_pn, xg_jt_pr, xg_jt_od, xg_jt_pn, xg_sv_pr, xg_sv_od, xg_sv_pn, xg_ja_pr, xg_ja_od, xg_ja_pn, xg_jb_pr, xg_jb_od, xg_jb_pn, xg_js_pr, xg_js_od, xg_js_pn]) (by simp only [coA, xg_nc_pr, xg_nc_od, xg_nc_pn, xg_nt_pr, xg_nt_od, xg_nt_pn, xg_nj_pr, xg_nj_od, xg_nj_pn, xg_mu_pr, xg_mu_od, xg_mu_pn, xg_bu_pr, xg_bu_od, xg_bu_pn, xg_di_pr, xg_di_od, xg_di_pn, xg_pl_pr, xg_pl_od, xg_pl_pn, xg_th_pr, xg_th_od, xg_th_pn, xg_yr_pr, xg_yr_od, xg_yr_pn, xg_co_pr, xg_co_od, xg_co_pn, xg_wo_pr, xg_wo_od, xg_wo_pn, xg_jt_pr, xg_jt_od, xg_jt_pn, xg_sv_pr, xg_sv_od, xg_sv_pn, xg_ja_pr, xg_ja_od, xg_ja_pn, xg_jb_pr, xg_jb_od, xg_jb_pn, xg_js_pr, xg_js_od, xg_js_pn]) (by simp only [coA, xg_mu_pr, xg_mu_od, xg_mu_pn, xg_nt_pr, xg_nt_od, xg_nt_pn, xg_nc_pr, xg_nc_od, xg_nc_pn, xg_nj_pr, xg_nj_od, xg_nj_pn, xg_bu_pr, xg_bu_od, xg_bu_pn, xg_di_pr, xg_di_od, xg_di_pn, xg_pl_pr, xg_pl_od, xg_pl_pn, xg_th_pr, xg_th_od, xg_th_pn, xg_yr_pr, xg_yr_od, xg_yr_pn, xg_co_pr, xg_co_od, xg_co_pn, xg_wo_pr, xg_wo_od, xg_wo_pn, xg_jt_pr, xg_jt_od, xg_jt_pn, xg_sv_pr, xg_sv_od, xg_sv_pn, xg_ja_pr, xg_ja_od, xg_ja_pn, xg_jb_pr, xg_jb_od, xg_jb_pn, xg_js_pr, xg_js_od, xg_js_pn]) (by simp only [coA, xg_nj_pr, xg_nj_od, xg_nj_pn, xg_nt_pr, xg_nt_od, xg_nt_pn, xg_nc_pr, xg_nc_od, xg_nc_pn, xg_mu_pr, xg_mu_od, xg_mu_pn, xg_bu_pr, xg_bu_od, xg_bu_pn, xg_di_pr, xg_di_od, xg_di_pn, xg_pl_pr, xg_pl_od, xg_pl_pn, xg_th_pr, xg_th_od, xg_th_pn, xg_yr_pr, xg_yr_od, xg_yr_pn, xg_co_pr, xg_co_od, xg_co_pn, xg_wo_pr, xg_wo_od, xg_wo_pn, xg_jt_pr, xg_jt_od, xg_jt_pn, xg_sv_pr, xg_sv_od, xg_sv_pn, xg_ja_pr, xg_ja_od, xg_ja_pn, xg_jb_pr, xg_jb_od, xg_jb_pn, xg_js_pr, xg_js_od, xg_js_pn]) (by simp only [coA, xg_fa_pr, xg_fa_od, xg_fa_pn, xg_nt_pr, xg_nt_od, xg_nt_pn, xg_nc_pr, xg_nc_od, xg_nc_pn, xg_nj_pr, xg_nj_od, xg_nj_pn, xg_mu_pr, xg_mu_od, xg_mu_pn, xg_bu_pr, xg_bu_od, xg_bu_pn, xg_di_pr, xg_di_od, xg_di_pn, xg_pl_pr, xg_pl_od, xg_pl_pn, xg_th_pr, xg_th_od, xg_th_pn, xg_yr_pr, xg_yr_od, xg_yr_pn, xg_co_pr, xg_co_od, xg_co_pn, xg_wo_pr, xg_wo_od, xg_wo_pn, xg_jt_pr, xg_jt_od, xg_jt_pn, xg_sv_pr, xg_sv_od, xg_sv_pn, xg_ja_pr, xg_ja_od, xg_ja_pn, xg_jb_pr, xg_jb_od, xg_jb_pn, xg_js_pr, xg_js_od, xg_js_pn]) (by simp only [coA, xg_bu_pr, xg_bu_od, xg_bu_pn, xg_nt_pr, xg_nt_od, xg_nt_pn, xg_nc_pr, xg_nc_od, xg_nc_pn, xg_nj_pr, xg_nj_od, xg_nj_pn, xg_mu_pr, xg_mu_od, xg_mu_pn, xg_di_pr, xg_di_od, xg_di_pn, xg_pl_pr, xg_pl_od, xg_pl_pn, xg_th_pr, xg_th_od, xg_th_pn, xg_yr_pr, xg_yr_od, xg_yr_pn, xg_co_pr, xg_co_od, xg_co_pn, xg_wo_pr, xg_wo_od, xg_wo_pn, xg_jt_pr, xg_jt_od, xg_jt_pn, xg_sv_pr, xg_sv_od, xg_sv_pn, xg_ja_pr, xg_ja_od, xg_ja_pn, xg_jb_pr, xg_jb_od, xg_jb_pn, xg_js_pr, xg_js_od, xg_js_pn]) (by simp only [coA, xg_pl_pr, xg_pl_od, xg_pl_pn, xg_nt_pr, xg_nt_od, xg_nt_pn, xg_nc_pr, xg_nc_od, xg_nc_pn, xg_nj_pr, xg_nj_od, xg_nj_pn, xg_mu_pr, xg_mu_od, xg_mu_pn, xg_bu_pr, xg_bu_od, xg_bu_pn, xg_di_pr, xg_di_od, xg_di_pn, xg_th_pr, xg_th_od, xg_th_pn, xg_yr_pr, xg_yr_od, xg_yr_pn, xg_co_pr, xg_co_od, xg_co_pn, xg_wo_pr, xg_wo_od, xg_wo_pn, xg_jt_pr, xg_jt_od, xg_jt_pn, xg_sv_pr, xg_sv_od, xg_sv_pn, xg_ja_pr, xg_ja_od, xg_ja_pn, xg_jb_pr, xg_jb_od, xg_jb_pn, xg_js_pr, xg_js_od, xg_js_pn]) (by simp only [coA, xg_di_pr, xg_di_od, xg_di_pn, xg_nt_pr, xg_nt_od, xg_nt_pn, xg_nc_pr, xg_nc_od, xg_nc_pn, xg_nj_pr, xg_nj_od, xg_nj_pn, xg_mu_pr, xg_mu_od, xg_mu_pn, xg_bu_pr, xg_bu_od, xg_bu_pn, xg_pl_pr, xg_pl_od, xg_pl_pn, xg_th_pr, xg_th_od, xg_th_pn, xg_yr_pr, xg_yr_od, xg_yr_pn, xg_co_pr, xg_co_od, xg_co_pn, xg_wo_pr, xg_wo_od, xg_wo_pn, xg_jt_pr, xg_jt_od, xg_jt_pn, xg_sv_pr, xg_sv_od, xg_sv_pn, xg_ja_pr, xg_ja_od, xg_ja_pn, xg_jb_pr, xg_jb_od, xg_jb_pn, xg_js_pr, xg_js_od, xg_js_pn]) (by simp only [coA, xg_th_pr, xg_th_od, xg_th_pn, xg_nt_pr, xg_nt_od, xg_nt_pn, xg_nc_pr, xg_nc_od, xg_nc_pn, xg_nj_pr, xg_nj_od, xg_nj_pn, xg_mu_pr, xg_mu_od, xg_mu_pn, xg_bu_pr, xg_bu_od, xg_bu_pn, xg_di_pr, xg_di_od, xg_di_pn, xg_pl_pr, xg_pl_od, xg_pl_pn, xg_yr_pr, xg_yr_od, xg_yr_pn, xg_co_pr, xg_co_od, xg_co_pn, xg_wo_pr, xg_wo_od, xg_wo_pn, xg_jt_pr, xg_jt_od, xg_jt_pn, xg_sv_pr, xg_sv_od, xg_sv_pn, xg_ja_pr, xg_ja_od, xg_ja_pn, xg_jb_pr, xg_jb_od, xg_jb_pn, xg_js_pr, xg_js_od, xg_js_pn]) (by simp only [coA, xg_yr_pr, xg_yr_od, xg_yr_pn, xg_nt_pr, xg_nt_od, xg_nt_pn, xg_nc_pr, xg_nc_od, xg_nc_pn, xg_nj_pr, xg_nj_od, xg_nj_pn, xg_mu_pr, xg_mu_od, xg_mu_pn, xg_bu_pr, xg_bu_od, xg_bu_pn, xg_di_pr, xg_di_od, xg_di_pn, xg_pl_pr, xg_pl_od, xg_pl_pn, xg_th_pr, xg_th_od, xg_th_pn, xg_co_pr, xg_co_od, xg_co_pn, xg_wo_pr, xg_wo_od, xg_wo_pn, xg_jt_pr, xg_jt_od, xg_jt_pn, xg_sv_pr, xg_sv_od, xg_sv_pn, xg_ja_pr, xg_ja_od, xg_ja_pn, xg_jb_pr, xg_jb_od, xg_jb_pn, xg_js_pr, xg_js_od, xg_js_pn]) (by simp only [coA, xg_co_pr, xg_co_od, xg_co_pn, xg_nt_pr, xg_nt_od, xg_nt_pn, xg_nc_pr, xg_nc_od, xg_nc_pn, xg_nj_pr, xg_nj_od, xg_nj_pn, xg_mu_pr, xg_mu_od, xg_mu_pn, xg_bu_pr, xg_bu_od, xg_bu_pn, xg_di_pr, xg_di_od, xg_di_pn, xg_pl_pr, xg_pl_od, xg_pl_pn, xg_th_pr, xg_th_od, xg_th_pn, xg_yr_pr, xg_yr_od, xg_yr_pn, xg_wo_pr, xg_wo_od, xg_wo_pn, xg_jt_pr, xg_jt_od, xg_jt_pn, xg_sv_pr, xg_sv_od, xg_sv_pn, xg_ja_pr, xg_ja_od, xg_ja_pn, xg_jb_pr, xg_jb_od, xg_jb_pn, xg_js_pr, xg_js_od, xg_js_pn]) (by simp only [coA, xg_wo_pr, xg_wo_od, xg_wo_pn, xg_nt_pr, xg_nt_od, xg_nt_pn, xg_nc_pr, xg_nc_od, xg_nc_pn, xg_nj_pr, xg_nj_od, xg_nj_pn, xg_mu_pr, xg_mu_od, xg_mu_pn, xg_bu_pr, xg_bu_od, xg_bu_pn, xg_di_pr, xg_di_od, xg_di_pn, xg_pl_pr, xg_pl_od, xg_pl_pn, xg_th_pr, xg_th_od, xg_th_pn, xg_yr_pr, xg_yr_od, xg_yr_pn, xg_co_pr, xg_co_od, xg_co_pn, xg_jt_pr, xg_jt_od, xg_jt_pn, xg_sv_pr, xg_sv_od, xg_sv_pn, xg_ja_pr, xg_ja_od, xg_ja_pn, xg_jb_pr, xg_jb_od, xg_jb_pn, xg_js_pr, xg_js_od, xg_js_pn]) (by simp only [coA, xg_jt_pr, xg_jt_od, xg_jt_pn, xg_nt_pr, xg_nt_od, xg_nt_pn, xg_nc_pr, xg_nc_od, xg_nc_pn, xg_nj_pr, xg_nj_od, xg_nj_pn, xg_mu_pr, xg_mu_od, xg_mu_pn, xg_bu_pr, xg_bu_od, xg_bu_pn, xg_di_pr, xg_di_od, xg_di_pn, xg_pl_pr, xg_pl_od, xg_pl_pn, xg_th_pr, xg_th_od, xg_th_pn, xg_yr_pr, xg_yr_od, xg_yr_pn, xg_co_pr, xg_co_od, xg_co_pn, xg_wo_pr, xg_wo_od, xg_wo_pn, xg_sv_pr, xg_sv_od, xg_sv_pn, xg_ja_pr, xg_ja_od, xg_ja_pn, xg_jb_pr, xg_jb_od, xg_jb_pn, xg_js_pr, xg_js_od, xg_js_pn]) (by simp only [coA, xg_sv_pr, xg_sv_od, xg_sv_pn, xg_nt_pr, xg_nt_od, xg_nt_pn, xg_nc_pr, xg_nc_od, xg_nc_pn, xg_nj_pr, xg_nj_od, xg_nj_pn, xg_mu_pr, xg_mu_od, xg_mu_pn, xg_bu_pr, xg_bu_od, xg_bu_pn, xg_di_pr, xg_di_od, xg_di_pn, xg_pl_pr, xg_pl_od, xg_pl_pn, xg_th_pr, xg_th_od, xg_th_pn, xg_yr_pr, xg_yr_od, xg_yr_pn, xg_co_pr, xg_co_od, xg_co_pn, xg_wo_pr, xg_wo_od, xg_wo_pn, xg_jt_pr, xg_jt_od, xg_jt_pn, xg_ja_pr, xg_ja_od, xg_ja_pn, xg_jb_pr, xg_jb_od, xg_jb_pn, xg_js_pr, xg_js_od, xg_js_pn]) (by simp only [coA, xg_ja_pr, xg_ja_od, xg_ja_pn, xg_nt_pr, xg_nt_od, xg_nt_pn, xg_nc_pr, xg_nc_od, xg_nc_pn, xg_nj_pr, xg_nj_od, xg_nj_pn, xg_mu_pr, xg_mu_od, xg_mu_pn, xg_bu_pr, xg_bu_od, xg_bu_pn, xg_di_pr, xg_di_od, xg_di_pn, xg_pl_pr, xg_pl_od, xg_pl_pn, xg_th_pr, xg_th_od, xg_th_pn, xg_yr_pr, xg_yr_od, xg_yr_pn, xg_co_pr, xg_co_od, xg_co_pn, xg_wo_pr, xg_wo_od, xg_wo_pn, xg_jt_pr, xg_jt_od, xg_jt_pn, xg_sv_pr, xg_sv_od, xg_sv_pn, xg_jb_pr, xg_jb_od, xg_jb_pn, xg_js_pr, xg_js_od, xg_js_pn]) (by simp only [coA, xg_jb_pr, xg_jb_od, xg_jb_pn, xg_nt_pr, xg_nt_od, xg_nt_pn, xg_nc_pr, xg_nc_od, xg_nc_pn, xg_nj_pr, xg_nj_od, xg_nj_pn, xg_mu_pr, xg_mu_od, xg_mu_pn, xg_bu_pr, xg_bu_od, xg_bu_pn, xg_di_pr, xg_di_od, xg_di_pn, xg_pl_pr, xg_pl_od, xg_pl_pn, xg_th_pr, xg_th_od, xg_th_pn, xg_yr_pr, xg_yr_od, xg_yr_pn, xg_co_pr, xg_co_od, xg_co_pn, xg_wo_pr, xg_wo_od, xg_wo_pn, xg_jt_pr, xg_jt_od, xg_jt_pn, xg_sv_pr, xg_sv_od, xg_sv_pn, xg_ja_pr, xg_ja_od, xg_ja_pn, xg_js_pr, xg_js_od, xg_js_pn]) (by simp only [coA, xg_js_pr, xg_js_od, xg_js_pn, xg_nt_pr, xg_nt_od, xg_nt_pn, xg_nc_pr, xg_nc_od, xg_nc_pn, xg_nj_pr, xg_nj_od, xg_nj_pn, xg_mu_pr, xg_mu_od, xg_mu_pn, xg_bu_pr, xg_bu_od, xg_bu_pn, xg_di_pr, xg_di_od, xg_di_pn, xg_pl_pr, xg_pl_od, xg_pl_pn, xg_th_pr, xg_th_od, xg_th_pn, xg_yr_pr, xg_yr_od, xg_yr_pn, xg_co_pr, xg_co_od, xg_co_pn, xg_wo_pr, xg_wo_od, xg_wo_pn, xg_jt_pr, xg_jt_od, xg_jt_pn, xg_sv_pr, xg_sv_od, xg_sv_pn, xg_ja_pr, xg_ja_od, xg_ja_pn, xg_jb_pr, xg_jb_od, xg_jb_pn]) (by simp only [coA, xg_pn_pr, xg_pn_od, xg_pn_pn, xg_nt_pr, xg_nt_od, xg_nt_pn, xg_nc_pr, xg_nc_od, xg_nc_pn, xg_nj_pr, xg_nj_od, xg_nj_pn, xg_mu_pr, xg_mu_od, xg_mu_pn, xg_bu_pr, xg_bu_od, xg_bu_pn, xg_di_pr, xg_di_od, xg_di_pn, xg_pl_pr, xg_pl_od, xg_pl_pn, xg_th_pr, xg_th_od, xg_th_pn, xg_yr_pr, xg_yr_od, xg_yr_pn, xg_co_pr, xg_co_od, xg_co_pn, xg_wo_pr, xg_wo_od, xg_wo_pn, xg_jt_pr, xg_jt_od, xg_jt_pn, xg_sv_pr, xg_sv_od, xg_sv_pn, xg_ja_pr, xg_ja_od, xg_ja_pn, xg_jb_pr, xg_jb_od, xg_jb_pn, xg_js_pr, xg_js_od, xg_js_pn]) (by simp only [coA, xg_od_pr, xg_od_od, xg_od_pn, xg_nt_pr, xg_nt_od, xg_nt_pn, xg_nc_pr, xg_nc_od, xg_nc_pn, xg_nj_pr, xg_nj_od, xg_nj_pn, xg_mu_pr, xg_mu_od, xg_mu_pn, xg_bu_pr, xg_bu_od, xg_bu_pn, xg_di_pr, xg_di_od, xg_di_pn, xg_pl_pr, xg_pl_od, xg_pl_pn, xg_th_pr, xg_th_od, xg_th_pn, xg_yr_pr, xg_yr_od, xg_yr_pn, xg_co_pr, xg_co_od, xg_co_pn, xg_wo_pr, xg_wo_od, xg_wo_pn, xg_jt_pr, xg_jt_od, xg_jt_pn, xg_sv_pr, xg_sv_od, xg_sv_pn, xg_ja_pr, xg_ja_od, xg_ja_pn, xg_jb_pr, xg_jb_od, xg_jb_pn, xg_js_pr, xg_js_od, xg_js_pn]) (by simp only [coA, xg_pr_pr, xg_pr_od, xg_pr_pn, xg_nt_pr, xg_nt_od, xg_nt_pn, xg_nc_pr, xg_nc_od, xg_nc_pn, xg_nj_pr, xg_nj_od, xg_nj_pn, xg_mu_pr, xg_mu_od, xg_mu_pn, xg_bu_pr, xg_bu_od, xg_bu_pn, xg_di_pr, xg_di_od, xg_di_pn, xg_pl_pr, xg_pl_od, xg_pl_pn, xg_th_pr, xg_th_od, xg_th_pn, xg_yr_pr, xg_yr_od, xg_yr_pn, xg_co_pr, xg_co_od, xg_co_pn, xg_wo_pr, xg_wo_od, xg_wo_pn, xg_jt_pr, xg_jt_od, xg_jt_pn, xg_sv_pr, xg_sv_od, xg_sv_pn, xg_ja_pr, xg_ja_od, xg_ja_pn, xg_jb_pr, xg_jb_od, xg_jb_pn, xg_js_pr, xg_js_od, xg_js_pn])
theorem ZB_best {A : ST} (k : okS A) (q : QS) (N : Nat) : (ZB A q N).1 = bestP A (x_mu A) (x_bu A) N := SR_best k.1 k.2.1 q _ N k.2.2.2.2 (fun y => (bu_b k.1 y).1) 0 0
theorem bestP_nc {A : ST} {mu : Nat} {li : Nat → Int} {N m : Nat} (h : bestP A mu li N = some m) : m < 2 ^ x_nc A := bst_lt (sn_lt A) h
theorem nearP_nc {A : ST} {mu : Nat} {li : Nat → Int} {od N m : Nat} (h : nearP A mu li od N = some m) : m < 2 ^ x_nc A := bst_lt (sn_lt A) h
theorem rst_e {A : ST} (k : okS A) {q : QS} (r : rst q) {N : Nat} (hN : N ≤ 20000) {od cm : Nat} (hcm : cm < 16384) : rst (eS A q (N : Int) N (x_mu A) (x_bu A) od cm false) := rst_eS k.1 r (by omega) (mu14 k) hcm (bu_b k.1) k.2.2.1
theorem p_run (sc : am_S) (v : Int64) {A : ST} {q : QS} (i : INV A q) (t : TS) : PRI sc m_B_run 41 m_M_run 5 [.long v] A q t := by
  by_cases h : ¬ v < 1 ∧ ¬ 20000 < v
  · obtain ⟨N, hN, rfl⟩ := rgN h
    have k := i.1.1
    have g1 := c_B_run sc A q A t N k.1 k.2.1 i.2.1 k.2.2.1 k.2.2.2.1 hN.1 hN.2
    rw [ZB_best k] at g1
    have g2 := c_M_run sc (x_s_pr (x_s_pn A (bestP A (x_mu A) (x_bu A) N)) (decide (2 ^ x_nc A ≤ N))) (pst A (zq (QB A q N) (ZB A q N)) 0) A t N i.1.M hN.1 hN.2
    rw [← bestP_bsM i.1.H] at g2
    refine ⟨_, _, _, _, _, _, g1, g2, ok_pr (ok_pn i.1 (fun m h => bestP_nc h)) _, ?_⟩
    exact kq_al (co_e1 A _ _) i.2 (rst_e k i.2.1 hN.2 (by decide)) (sq_eS A q (N : Int) N (x_mu A) (x_bu A) 0 0 false)
  · exact ⟨_, _, _, _, _, _, c_B_run_no sc A q A t v h, c_M_run_no sc A q A t v h, i⟩
theorem p_chosen (sc : am_S) (x : Int32) {A : ST} {q : QS} (i : INV A q) (t : TS) : PRI sc m_B_chosen 1 m_M_chosen 1 [.int x] A q t :=
  ⟨_, _, _, _, _, _, c_B_chosen sc A q A t x i.1.1.1 i.1.p, c_M_chosen sc A q A t x i.1.1.1 i.1.p, i⟩
theorem p_worth (sc : am_S) {A : ST} {q : QS} (i : INV A q) (t : TS) : PRL sc m_B_worth 2 m_M_worth 2 [] A q t :=
  ⟨_, _, _, _, _, _, c_B_worth sc A q A t i.1.1.1 i.1.p, c_M_worth sc A q A t i.1.1.1 i.1.p, i⟩
theorem p_bound (sc : am_S) (x : Int32) {A : ST} {q : QS} (i : INV A q) (t : TS) : PRL sc m_B_bound 5 m_M_bound 2 [.int x] A q t := by
  have g1 := c_B_bound sc A q A t x i.1.1.1
  rw [bnd_eq i.1.H] at g1
  exact ⟨_, _, _, _, _, _, g1, c_M_bound sc A q A t x i.1.1.1 i.1.2.1, i⟩
theorem p_proved (sc : am_S) {A : ST} {q : QS} (i : INV A q) (t : TS) : PRI sc m_B_proved 0 m_M_proved 0 [] A q t :=
  ⟨_, _, _, _, _, _, c_B_proved sc A q A t, c_M_proved sc A q A t, i⟩
theorem p_clash (sc : am_S) (x : Int32) {A : ST} {q : QS} (i : INV A q) (t : TS) : PRI sc m_B_clash 42 m_M_clash 5 [.int x] A q t := by
  have k := i.1.1
  cases hk : q_ck q with
  | true =>
    have g1 := c_B_clash_k sc A q A t x k hk (i.2.2.2 hk)
    rw [cla_clM i.1.H k] at g1
    exact ⟨_, _, _, _, _, _, g1, c_M_clash sc A q A t x i.1.M, i⟩
  | false =>
    have g1 := c_B_clash_n sc A q A t x k i.2.1 hk
    rw [cla_clM i.1.H k] at g1
    refine ⟨_, _, _, _, _, _, g1, c_M_clash sc A _ A t x i.1.M, i.1, rst_ck (rst_cl (clQ_rst k i.2.1) _) _, fun h => ?_, fun _ => rfl⟩
    have s := clQ_sq A q
    have h1 : q_bk (clQ A q) = true := h
    rw [s.1] at h1
    show q_ba (clQ A q) = _
    rw [s.2.1]
    exact i.2.2.1 h1
theorem kq_bk {A : ST} {q : QS} (k : okS A) (h : kq A q) : kq A (bkq A q) := by
  refine ⟨bkq_rst k h.1, fun _ => rfl, fun hc => ?_⟩
  have s := sq_eS A q 16384 16384 (x_mu A) (x_bu A) 0 0 false
  have h1 : q_ck (eS A q 16384 16384 (x_mu A) (x_bu A) 0 0 false) = true := hc
  rw [s.2.2.1] at h1
  show q_cl (eS A q 16384 16384 (x_mu A) (x_bu A) 0 0 false) = _
  rw [s.2.2.2]
  exact h.2.2 h1
theorem p_price (sc : am_S) (x z : Int32) {A : ST} {q : QS} (i : INV A q) (t : TS) : PRL sc m_B_price 42 m_M_price 5 [.int x, .int z] A q t := by
  have k := i.1.1
  have b1 := k.1.1
  have hb := i.1.2.2.2.2.2.2.1
  by_cases h : (¬ x < 0 ∧ ¬ nI (x_ny A) ≤ x) ∧ (z = 0 ∨ z = 1)
  · obtain ⟨h1, h2⟩ := h
    obtain ⟨y, hy, rfl⟩ := rgI (by omega) h1
    rcases h2 with rfl | rfl
    · cases hk : q_bk q with
      | true =>
        have g1 := c_B_price_0k sc A q A t y k i.2.1 hy hk (i.2.2.1 hk)
        rw [gnb_gnM i.1.H hb] at g1
        exact ⟨_, _, _, _, _, _, g1, c_M_price_0 sc A _ A t y i.1.M hb hy, i.1, kq_al rfl i.2 (gnq_rst k i.2.1 (by omega)) (gnq_sq A q y)⟩
      | false =>
        have g1 := c_B_price_0n sc A q A t y k i.2.1 hy hk
        rw [gnb_gnM i.1.H hb] at g1
        have kb := kq_bk k i.2
        exact ⟨_, _, _, _, _, _, g1, c_M_price_0 sc A _ A t y i.1.M hb hy, i.1, kq_al rfl kb (gnq_rst k kb.1 (by omega)) (gnq_sq A (bkq A q) y)⟩
    · have g1 := c_B_price_1 sc A q A t y k.1 hy
      rw [price_eq i.1.H hb hy] at g1
      exact ⟨_, _, _, _, _, _, g1, c_M_price_1 sc A q A t y i.1.M hb hy, i⟩
  · exact ⟨_, _, _, _, _, _, c_B_price_no sc A q A t x z h, c_M_price_no sc A q A t x z h, i⟩
theorem p_old (sc : am_S) (x : Int32) (on : Bool) {A : ST} {q : QS} (i : INV A q) (t : TS) : PRI sc m_B_old 1 m_M_old 1 [.int x, .int (zI on)] A q t := by
  have b := i.1.1.1
  have b3 := b.2.2.1
  by_cases h : ¬ x < 0 ∧ ¬ nI (x_nc A) ≤ x
  · obtain ⟨c, hc, rfl⟩ := rgI (by omega) h
    have ho : odN A c on < 2 ^ x_nc A := by
      unfold odN
      split
      · exact or_lt i.1.2.2.2.2.2.1 (Nat.pow_lt_pow_right (by decide) hc)
      · exact Nat.lt_of_le_of_lt (clr_le _ _) i.1.2.2.2.2.2.1
    exact ⟨_, _, _, _, _, _, c_B_old sc A q A t c on b hc, c_M_old sc (x_s_od A (odN A c on)) q A t c on b hc, ok_od i.1 ho, kq_al (co_e3 A _) i.2 i.2.1 (sq_rf q)⟩
  · exact ⟨_, _, _, _, _, _, c_B_old_no sc A q A t x on h, c_M_old_no sc A q A t x on h, i⟩
theorem p_changes (sc : am_S) (v : Int64) {A : ST} {q : QS} (i : INV A q) (t : TS) : PRI sc m_B_changes 41 m_M_changes 5 [.long v] A q t := by
  by_cases h : ¬ v < 1 ∧ ¬ 20000 < v
  · obtain ⟨N, hN, rfl⟩ := rgN h
    have k := i.1.1
    have ho := i.1.2.2.2.2.2.1
    have g1 := c_B_changes sc A q A t N k i.2.1 i.1.o hN.1 hN.2
    rw [chn_chM i.1.H ho] at g1
    have g2 := c_M_changes sc (x_s_pn A (nearP A (x_mu A) (x_bu A) (x_od A) N)) (npq A q N) A t N i.1.M i.1.o hN.1 hN.2
    rw [← nearP_nrM i.1.H ho] at g2
    refine ⟨_, _, _, _, _, _, g1, g2, ok_pn i.1 (fun m h => nearP_nc h), ?_⟩
    have hcm : 2 ^ x_nc A - 1 < 16384 := by
      have := p14 k.1.2.2.1
      have : 0 < 2 ^ x_nc A := Nat.two_pow_pos _
      omega
    exact kq_al (co_e2 A _) i.2 (rst_e k i.2.1 hN.2 hcm) (sq_eS A q (N : Int) N (x_mu A) (x_bu A) (x_od A) (2 ^ x_nc A - 1) false)
  · exact ⟨_, _, _, _, _, _, c_B_changes_no sc A q A t v h, c_M_changes_no sc A q A t v h, i⟩
theorem p_changed (sc : am_S) (x : Int32) {A : ST} {q : QS} (i : INV A q) (t : TS) : PRI sc m_B_changed 2 m_M_changed 1 [.int x] A q t := by
  have b := i.1.1.1
  cases hp1 : x_pn A with
  | none => exact ⟨_, _, _, _, _, _, c_B_changed_no sc A q A t x hp1, c_M_changed_no sc A q A t x b hp1, i⟩
  | some m =>
    have hm := i.1.2.2.2.2.1 m hp1
    have ho := i.1.2.2.2.2.2.1
    have g1 := c_B_changed sc A q A t x m hp1 (i.1.p m hp1) i.1.o
    rw [mbo_nc (Nat.xor_lt_two_pow hm ho) b.2.2.1] at g1
    exact ⟨_, _, _, _, _, _, g1, c_M_changed sc A q A t x m b hp1 (i.1.p m hp1) i.1.o, i⟩
theorem p_backlog (sc : am_S) (x : Int32) {A : ST} {q : QS} (i : INV A q) (t : TS) : PRL sc m_B_backlog 2 m_M_backlog 2 [.int x] A q t := by
  have b := i.1.1.1
  have b1 := b.1
  by_cases h : ¬ x < 0 ∧ ¬ nI (x_ny A) ≤ x
  · obtain ⟨y, hy, rfl⟩ := rgI (by omega) h
    exact ⟨_, _, _, _, _, _, c_B_backlog sc A q A t y b hy i.1.p, c_M_backlog sc A q A t y b hy i.1.p, i⟩
  · exact ⟨_, _, _, _, _, _, c_B_backlog_no sc A q A t x h, c_M_backlog_no sc A q A t x h, i⟩
theorem p_rank (sc : am_S) (x : Int32) {A : ST} {q : QS} (i : INV A q) (t : TS) : PRI sc m_B_rank 5 m_M_rank 1 [.int x] A q t := by
  have b := i.1.1.1
  have b2 := b.2.1
  have g1 := c_B_rank sc A q A t x b
  by_cases h : ¬ x < 0 ∧ x < nI (x_nt A)
  · obtain ⟨l, hl, rfl⟩ := rgI (x := x) (n := x_nt A) (by omega) ⟨h.1, fun e => absurd h.2 (Int32.not_lt.mpr e)⟩
    rw [rank_eq i.1.H (t_ra t) hl] at g1
    exact ⟨_, _, _, _, _, _, g1, c_M_rank sc A q A t l b hl, i⟩
  · rw [rank_no i.1.H h] at g1
    exact ⟨_, _, _, _, _, _, g1, c_M_rank_no sc A q A t x h, i⟩
theorem p_share (sc : am_S) (x z : Int32) {A : ST} {q : QS} (i : INV A q) (t : TS) : PRL sc m_B_share 2 m_M_share 2 [.int x, .int z] A q t := by
  have b := i.1.1.1
  by_cases h : (¬ x < 0 ∧ ¬ 4 ≤ x) ∧ (¬ z < 0 ∧ ¬ 1 < z) ∧ x_pn A ≠ none
  · obtain ⟨h1, h2, h3⟩ := h
    obtain ⟨m, hm⟩ := Option.ne_none_iff_exists'.mp h3
    obtain ⟨d, hd, rfl⟩ := rgI (n := 4) (by omega) h1
    obtain ⟨p, hp0, rfl⟩ := nI_of (x := z) (by simpa using h2.1)
    have hp1 : p < 2 := by
      have := mt (nI_ltI (a := 1) (b := p) (by omega) (by omega)).mpr h2.2
      omega
    have g1 := c_B_share sc A q A t d p m b hd hp1 hm (i.1.p m hm)
    rw [shv_shM b m d hp1] at g1
    exact ⟨_, _, _, _, _, _, g1, c_M_share sc A q A t d p m b hd hp1 hm (i.1.p m hm), i⟩
  · refine ⟨_, _, _, _, _, _, c_B_share_no sc A q A t x z i.1.p h, c_M_share_no sc A q A t x z i.1.p ?_, i⟩
    rintro ⟨h1, h2, h3⟩
    refine h ⟨(rgT (n := 4) (by omega)).mp h1, ?_, h3⟩
    rcases h2 with rfl | rfl <;> decide
theorem pM_nc {A : ST} (k : ok A) {f : Nat → Nat} : ∀ n, (∀ j, j < n → f j < x_nc A) → pM A f n < 2 ^ x_nc A
  | 0, _ => k.1.2.2.2.2
  | n + 1, hf => by
    have h := pM_nc k (f := f) n (fun j hj => hf j (by omega))
    unfold pM
    split
    · exact or_lt h (Nat.pow_lt_pow_right (by decide) (hf n (by omega)))
    · exact h
theorem plM_nc {A : ST} (k : ok A) {t : TS} {l m : Nat} (hl : l < 3) (h : plM A t l = some m) : m < 2 ^ x_nc A := by
  unfold plM at h
  split at h
  · cases h
    refine pM_nc k _ (fun j hj => ?_)
    rw [insO_inO]
    exact (inO_srt (gb_sto k.1.1 hl _) _ _ (Nat.le_refl _)).1 j hj
  · cases h
theorem p_policy (sc : am_S) (x : Int32) {A : ST} {q : QS} (i : INV A q) (t : TS) : PRI sc m_B_policy 6 m_M_policy 4 [.int x] A q t := by
  have b := i.1.1.1
  have g1 := c_B_policy sc A q A t x b i.2.1
  have kk := fun o : Option Nat => kq_al (co_e2 A o) i.2 (pbq_rst b i.2.1 x) (pbq_sq A q x)
  by_cases h : ¬ x < 0 ∧ ¬ 3 ≤ x
  · obtain ⟨l, hl, rfl⟩ := rgI (n := 3) (by omega) h
    have e := pbo_plM i.1.H q t hl
    rw [e] at g1
    refine ⟨_, _, _, _, _, _, g1, c_M_policy sc _ _ A t l b i.1.2.1 hl, ok_pn i.1 (fun m hm => ?_), kk _⟩
    exact plM_nc i.1 hl hm
  · rw [pbo_bad q h] at g1
    refine ⟨_, _, _, _, _, _, g1, c_M_policy_no sc _ _ A t x (fun z => h ⟨z.1, fun e => absurd z.2 (fun e2 => ?_)⟩), ok_pn i.1 (fun m hm => by cases hm), kk _⟩
    have := Int32.le_trans e e2
    exact absurd this (by decide)
theorem p_compare (sc : am_S) (x z : Int32) {A : ST} {q : QS} (i : INV A q) (t : TS) : PRL sc m_B_compare 6 m_M_compare 4 [.int x, .int z] A q t := by
  have b := i.1.1.1
  have g1 := c_B_compare sc A q A t x z b i.2.1
  have r1 := pbq_rst b i.2.1 x
  have kk := kq_al (A := A) (B := A) rfl i.2 (pbq_rst b r1 z) (sq_tr (pbq_sq A q x) (pbq_sq A (pbq A q x) z))
  have le2 : ∀ w : Int32, w ≤ 2 → ¬ 3 ≤ w := fun w h e => absurd (Int32.le_trans e h) (by decide)
  by_cases h1 : ¬ x < 0 ∧ ¬ 3 ≤ x
  · by_cases h2 : ¬ z < 0 ∧ ¬ 3 ≤ z
    · obtain ⟨l, hl, rfl⟩ := rgI (n := 3) (by omega) h1
      obtain ⟨n, hn, rfl⟩ := rgI (n := 3) (by omega) h2
      rw [pbo_plM i.1.H q t hl, pbo_plM i.1.H _ (plT A t l) hn] at g1
      exact ⟨_, _, _, _, _, _, g1, c_M_compare sc A _ A t l n b i.1.2.1 hl hn, i.1, kk⟩
    · rw [pbo_bad (pbq A q x) h2, show cmv A (pbo A q x) none = -1 from by cases pbo A q x <;> rfl] at g1
      exact ⟨_, _, _, _, _, _, g1, c_M_compare_no sc A _ A t x z (fun w => h2 ⟨w.2.1, le2 z w.2.2⟩), i.1, kk⟩
  · rw [pbo_bad q h1, show cmv A none (pbo A (pbq A q x) z) = -1 from rfl] at g1
    exact ⟨_, _, _, _, _, _, g1, c_M_compare_no sc A _ A t x z (fun w => h1 ⟨w.1.1, le2 x w.1.2⟩), i.1, kk⟩
theorem p_list (sc : am_S) (x z : Int32) {A : ST} {q : QS} (i : INV A q) (t : TS) : PRI sc m_B_list 2 m_M_list 1 [.int x, .int z] A q t := by
  have b := i.1.1.1
  by_cases h : (¬ x < 0 ∧ ¬ 4 ≤ x) ∧ ¬ z < 0
  · obtain ⟨h1, h2⟩ := h
    obtain ⟨d, hd, rfl⟩ := rgI (n := 4) (by omega) h1
    obtain ⟨k, hk, rfl⟩ := nI_of (x := z) (by simpa using h2)
    have g1 := c_B_list sc A q A t d k b i.1.p hd hk
    cases hp1 : x_pn A with
    | none =>
      rw [show pon A = 0 from by unfold pon; rw [hp1]; rfl, lst_0 b] at g1
      exact ⟨_, _, _, _, _, _, g1, c_M_list_nop sc A q A t (nI d) (nI k) hp1, i⟩
    | some m =>
      rw [show pon A = m from by unfold pon; rw [hp1]; rfl, lst_lsM b m d _ _ _ hk] at g1
      exact ⟨_, _, _, _, _, _, g1, c_M_list sc A q A t d k m b hd hk hp1 (i.1.p m hp1), i⟩
  · have g1 := c_B_list_no sc A q A t x z h
    cases hp1 : x_pn A with
    | none => exact ⟨_, _, _, _, _, _, g1, c_M_list_nop sc A q A t x z hp1, i⟩
    | some m =>
      refine ⟨_, _, _, _, _, _, g1, c_M_list_no sc A q A t x z m b hp1 (i.1.p m hp1) ?_, i⟩
      by_cases h1 : z < 0
      · exact Or.inl h1
      · exact Or.inr (fun h2 => h ⟨h2, h1⟩)
theorem p_earlier (sc : am_S) (x : Int32) {A : ST} {q : QS} (i : INV A q) (t : TS) : PRI sc m_B_earlier 1 m_M_earlier 1 [.int x] A q t := by
  have b := i.1.1.1
  have b1 := b.1
  by_cases h : ¬ x < 0 ∧ ¬ nI (x_ny A) ≤ x
  · obtain ⟨y, hy, rfl⟩ := rgI (by omega) h
    cases hp1 : x_pn A with
    | none => exact ⟨_, _, _, _, _, _, c_B_earlier_nop sc A q A t (nI y) hp1, c_M_earlier_nop sc A q A t (nI y) hp1, i⟩
    | some m => exact ⟨_, _, _, _, _, _, c_B_earlier sc A q A t y m b hy hp1 (i.1.p m hp1), c_M_earlier sc A q A t y m b hy hp1 (i.1.p m hp1), i⟩
  · exact ⟨_, _, _, _, _, _, c_B_earlier_noy sc A q A t x h, c_M_earlier_noy sc A q A t x h, i⟩
theorem p_holds (sc : am_S) (x : Int32) {A : ST} {q : QS} (i : INV A q) (t : TS) : PRI sc m_B_holds 3 m_M_holds 3 [.int x] A q t := by
  have b := i.1.1.1
  have b1 := b.1
  by_cases h : ¬ x < 0 ∧ ¬ nI (x_ny A) ≤ x
  · obtain ⟨y, hy, rfl⟩ := rgI (by omega) h
    cases hp1 : x_pn A with
    | none => exact ⟨_, _, _, _, _, _, c_B_holds_nop sc A q A t (nI y) hp1, c_M_holds_nop sc A q A t (nI y) hp1, i⟩
    | some m =>
      have g1 := c_B_holds sc A q A t y m b hy hp1 (i.1.p m hp1)
      rw [spI_spM i.1.2.2.1] at g1
      exact ⟨_, _, _, _, _, _, g1, c_M_holds sc A q A t y m b i.1.2.1 hy hp1 (i.1.p m hp1), i⟩
  · exact ⟨_, _, _, _, _, _, c_B_holds_noy sc A q A t x h, c_M_holds_noy sc A q A t x h, i⟩
