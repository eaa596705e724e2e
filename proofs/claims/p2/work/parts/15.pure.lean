theorem dummy_15 : True := trivial
