theorem tw_IOO : GoodIn lw_tbl WE_IOO := goodIn_sub (by decide +kernel) (by decide +kernel)
