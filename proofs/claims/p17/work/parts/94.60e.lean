theorem tw_IAE : GoodIn lw_tbl WE_IAE := goodIn_sub (by decide +kernel) (by decide +kernel)
