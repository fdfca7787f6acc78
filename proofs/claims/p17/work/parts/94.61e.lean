theorem tw_UOE : GoodIn lw_tbl WE_UOE := goodIn_sub (by decide +kernel) (by decide +kernel)
