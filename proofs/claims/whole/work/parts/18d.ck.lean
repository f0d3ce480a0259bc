set_option maxRecDepth 1000000 in
theorem ck_288 : ckL code 13 false (some .boolean) cd_288 0 = true := by decide +kernel
