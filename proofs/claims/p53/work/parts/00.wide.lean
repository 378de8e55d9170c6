abbrev wd_lib := @Jvm.FP.Core.ddiv_out
