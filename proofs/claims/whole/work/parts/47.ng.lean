theorem ng_0 : mf 30 none gG 1073729077 = none := by decide +kernel
