theorem ov_end : True := trivial
